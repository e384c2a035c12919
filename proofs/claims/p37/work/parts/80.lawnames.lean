theorem lw_t1 : ∀ w ∈ tables_1_1, w ∈ lw_tbl := fun w h => List.mem_append.mpr (Or.inr (show w ∈ tables_1 from (List.mem_append.mpr (Or.inl h))))
theorem lw_t2 : ∀ w ∈ tables_1_2, w ∈ lw_tbl := fun w h => List.mem_append.mpr (Or.inr (show w ∈ tables_1 from (List.mem_append.mpr (Or.inr (List.mem_append.mpr (Or.inl h))))))
theorem lw_t3 : ∀ w ∈ tables_1_3, w ∈ lw_tbl := fun w h => List.mem_append.mpr (Or.inr (show w ∈ tables_1 from (List.mem_append.mpr (Or.inr (List.mem_append.mpr (Or.inr (List.mem_append.mpr (Or.inl h))))))))
theorem lw_t4 : ∀ w ∈ tables_1_4, w ∈ lw_tbl := fun w h => List.mem_append.mpr (Or.inr (show w ∈ tables_1 from (List.mem_append.mpr (Or.inr (List.mem_append.mpr (Or.inr (List.mem_append.mpr (Or.inr (List.mem_append.mpr (Or.inl h))))))))))
theorem lw_t5 : ∀ w ∈ tables_1_5, w ∈ lw_tbl := fun w h => List.mem_append.mpr (Or.inr (show w ∈ tables_1 from (List.mem_append.mpr (Or.inr (List.mem_append.mpr (Or.inr (List.mem_append.mpr (Or.inr (List.mem_append.mpr (Or.inr (List.mem_append.mpr (Or.inl h))))))))))))
theorem lw_t6 : ∀ w ∈ tables_1_6, w ∈ lw_tbl := fun w h => List.mem_append.mpr (Or.inr (show w ∈ tables_1 from (List.mem_append.mpr (Or.inr (List.mem_append.mpr (Or.inr (List.mem_append.mpr (Or.inr (List.mem_append.mpr (Or.inr (List.mem_append.mpr (Or.inr (List.mem_append.mpr (Or.inl h))))))))))))))
theorem lw_t7 : ∀ w ∈ tables_1_7, w ∈ lw_tbl := fun w h => List.mem_append.mpr (Or.inr (show w ∈ tables_1 from (List.mem_append.mpr (Or.inr (List.mem_append.mpr (Or.inr (List.mem_append.mpr (Or.inr (List.mem_append.mpr (Or.inr (List.mem_append.mpr (Or.inr (List.mem_append.mpr (Or.inr h))))))))))))))
set_option maxRecDepth 100000 in
theorem mz_0 : Cond.constantLong RL 13 (4294967295) ∈ lw_tbl := lw_t7 _ (List.mem_of_getElem? (i := 42) rfl)
set_option maxRecDepth 100000 in
theorem mz_1 : Cond.code yX11_feed cX11_feed 3 (some .int) ∈ lw_tbl := lw_t2 _ (List.mem_of_getElem? (i := 171) rfl)
set_option maxRecDepth 100000 in
theorem mz_2 : Cond.fieldLink RX11 26 "LadleKings" "tape" "LLadleKings$Tape;" ∈ lw_tbl := lw_t2 _ (List.mem_of_getElem? (i := 124) rfl)
set_option maxRecDepth 100000 in
theorem mz_3 : Cond.fieldLink RX11 111 "LadleKings$Tape" "length" "I" ∈ lw_tbl := lw_t1 _ (List.mem_of_getElem? (i := 149) rfl)
set_option maxRecDepth 100000 in
theorem mz_4 : Cond.methodLink RX11 107 yX9_append ∈ lw_tbl := lw_t2 _ (List.mem_of_getElem? (i := 172) rfl)
set_option maxRecDepth 100000 in
theorem mz_5 : Cond.instanceMethod yX9_append ∈ lw_tbl := lw_t2 _ (List.mem_of_getElem? (i := 173) rfl)
set_option maxRecDepth 100000 in
theorem mz_6 : Cond.selects RX9 yX9_append yX9_append ∈ lw_tbl := lw_t2 _ (List.mem_of_getElem? (i := 174) rfl)
set_option maxRecDepth 100000 in
theorem mz_7 : Cond.initialized RX9 ∈ lw_tbl := lw_t1 _ (List.mem_of_getElem? (i := 5) rfl)
set_option maxRecDepth 100000 in
theorem mz_8 : Cond.code yX9_append cX9_append 4 (some .boolean) ∈ lw_tbl := lw_t2 _ (List.mem_of_getElem? (i := 175) rfl)
set_option maxRecDepth 100000 in
theorem mz_9 : Cond.fieldLink RX9 15 "LadleKings$Tape" "length" "I" ∈ lw_tbl := lw_t1 _ (List.mem_of_getElem? (i := 148) rfl)
set_option maxRecDepth 100000 in
theorem mz_10 : Cond.fieldLink RX9 9 "LadleKings$Tape" "bytes" "[B" ∈ lw_tbl := lw_t1 _ (List.mem_of_getElem? (i := 147) rfl)
set_option maxRecDepth 100000 in
theorem hz_wsX110 : ∀ w ∈ wsX110, w ∈ lw_tbl := fun w h => (goodIn_r (big := lw_tbl) wsX110 [451, 453, 455, 457, 459, 461, 463, 465, 467, 469, 471, 473, 475, 477, 479] rfl (by decide +kernel) w h).1
set_option maxRecDepth 100000 in
theorem hz_wsX90 : ∀ w ∈ wsX90, w ∈ lw_tbl := fun w h => (goodIn_r (big := lw_tbl) wsX90 [232, 234, 236, 238, 240, 242] rfl (by decide +kernel) w h).1
theorem hz_wsX11_feed : ∀ w ∈ wsX11_feed, w ∈ lw_tbl := (List.forall_mem_cons.mpr ⟨mz_1, (List.forall_mem_append.mpr ⟨(List.forall_mem_append.mpr ⟨(List.forall_mem_cons.mpr ⟨mz_2, (List.forall_mem_cons.mpr ⟨mz_3, (List.forall_mem_cons.mpr ⟨mz_4, (List.forall_mem_cons.mpr ⟨mz_5, (List.forall_mem_cons.mpr ⟨mz_6, (List.forall_mem_cons.mpr ⟨mz_7, (List.forall_mem_cons.mpr ⟨mz_8, (List.forall_mem_cons.mpr ⟨mz_9, (List.forall_mem_cons.mpr ⟨mz_10, (fun _ h => absurd h List.not_mem_nil)⟩)⟩)⟩)⟩)⟩)⟩)⟩)⟩)⟩), hz_wsX110⟩), hz_wsX90⟩)⟩)
set_option maxRecDepth 100000 in
theorem mz_11 : Cond.methodLink RL 15 yX11_feed ∈ lw_tbl := lw_t2 _ (List.mem_of_getElem? (i := 168) rfl)
set_option maxRecDepth 100000 in
theorem mz_12 : Cond.instanceMethod yX11_feed ∈ lw_tbl := lw_t2 _ (List.mem_of_getElem? (i := 169) rfl)
set_option maxRecDepth 100000 in
theorem mz_13 : Cond.selects RX11 yX11_feed yX11_feed ∈ lw_tbl := lw_t2 _ (List.mem_of_getElem? (i := 170) rfl)
set_option maxRecDepth 100000 in
theorem mz_14 : Cond.initialized RX11 ∈ lw_tbl := lw_t1 _ (List.mem_of_getElem? (i := 1) rfl)
set_option maxRecDepth 100000 in
theorem mz_15 : Cond.code yX12_feed cX12_feed 4 (some .int) ∈ lw_tbl := lw_t5 _ (List.mem_of_getElem? (i := 191) rfl)
set_option maxRecDepth 100000 in
theorem mz_16 : Cond.fieldLink RX12 110 "LadleKingsModel" "taped" "I" ∈ lw_tbl := lw_t5 _ (List.mem_of_getElem? (i := 90) rfl)
set_option maxRecDepth 100000 in
theorem mz_17 : Cond.fieldLink RX12 32 "LadleKingsModel" "tape" "[I" ∈ lw_tbl := lw_t5 _ (List.mem_of_getElem? (i := 89) rfl)
set_option maxRecDepth 100000 in
theorem mz_18 : Cond.constantLong RX12 113 (255) ∈ lw_tbl := lw_t5 _ (List.mem_of_getElem? (i := 192) rfl)
set_option maxRecDepth 100000 in
theorem hz_wsX120 : ∀ w ∈ wsX120, w ∈ lw_tbl := fun w h => (goodIn_r (big := lw_tbl) wsX120 [1147, 1149, 1151, 1153, 1155, 1157, 1159, 1161, 1163, 1165, 1167, 1169, 1171, 1173, 1175, 1177, 1179, 1181, 1183, 1185, 1187, 1189, 1191, 1193, 1195, 1197, 1199, 1201, 1203, 1205, 1207, 1209, 1211, 1213, 1215, 1217, 1219] rfl (by decide +kernel) w h).1
theorem hz_wsX12_feed : ∀ w ∈ wsX12_feed, w ∈ lw_tbl := (List.forall_mem_cons.mpr ⟨mz_15, (List.forall_mem_append.mpr ⟨(List.forall_mem_cons.mpr ⟨mz_16, (List.forall_mem_cons.mpr ⟨mz_17, (List.forall_mem_cons.mpr ⟨mz_18, (fun _ h => absurd h List.not_mem_nil)⟩)⟩)⟩), hz_wsX120⟩)⟩)
set_option maxRecDepth 100000 in
theorem mz_19 : Cond.methodLink RL 19 yX12_feed ∈ lw_tbl := lw_t5 _ (List.mem_of_getElem? (i := 188) rfl)
set_option maxRecDepth 100000 in
theorem mz_20 : Cond.instanceMethod yX12_feed ∈ lw_tbl := lw_t5 _ (List.mem_of_getElem? (i := 189) rfl)
set_option maxRecDepth 100000 in
theorem mz_21 : Cond.selects RX12 yX12_feed yX12_feed ∈ lw_tbl := lw_t5 _ (List.mem_of_getElem? (i := 190) rfl)
set_option maxRecDepth 100000 in
theorem mz_22 : Cond.initialized RX12 ∈ lw_tbl := lw_t1 _ (List.mem_of_getElem? (i := 14) rfl)
set_option maxRecDepth 100000 in
theorem mz_23 : Cond.code yX11_end cX11_end 3 (some .int) ∈ lw_tbl := lw_t2 _ (List.mem_of_getElem? (i := 179) rfl)
theorem hz_wsX11_end : ∀ w ∈ wsX11_end, w ∈ lw_tbl := (List.forall_mem_cons.mpr ⟨mz_23, (List.forall_mem_append.mpr ⟨(List.forall_mem_append.mpr ⟨(List.forall_mem_cons.mpr ⟨mz_2, (List.forall_mem_cons.mpr ⟨mz_3, (fun _ h => absurd h List.not_mem_nil)⟩)⟩), hz_wsX110⟩), hz_wsX90⟩)⟩)
set_option maxRecDepth 100000 in
theorem mz_24 : Cond.methodLink RL 20 yX11_end ∈ lw_tbl := lw_t2 _ (List.mem_of_getElem? (i := 176) rfl)
set_option maxRecDepth 100000 in
theorem mz_25 : Cond.instanceMethod yX11_end ∈ lw_tbl := lw_t2 _ (List.mem_of_getElem? (i := 177) rfl)
set_option maxRecDepth 100000 in
theorem mz_26 : Cond.selects RX11 yX11_end yX11_end ∈ lw_tbl := lw_t2 _ (List.mem_of_getElem? (i := 178) rfl)
set_option maxRecDepth 100000 in
theorem mz_27 : Cond.code yX12_end cX12_end 3 (some .int) ∈ lw_tbl := lw_t5 _ (List.mem_of_getElem? (i := 196) rfl)
set_option maxRecDepth 100000 in
theorem mz_28 : Cond.methodLink RX12 115 yX12_in ∈ lw_tbl := lw_t5 _ (List.mem_of_getElem? (i := 197) rfl)
set_option maxRecDepth 100000 in
theorem mz_29 : Cond.static yX12_in ∈ lw_tbl := lw_t5 _ (List.mem_of_getElem? (i := 198) rfl)
set_option maxRecDepth 100000 in
theorem mz_30 : Cond.code yX12_in cX12_in 6 (some .boolean) ∈ lw_tbl := lw_t5 _ (List.mem_of_getElem? (i := 199) rfl)
theorem hz_wsX12_end : ∀ w ∈ wsX12_end, w ∈ lw_tbl := (List.forall_mem_cons.mpr ⟨mz_27, (List.forall_mem_append.mpr ⟨(List.forall_mem_cons.mpr ⟨mz_16, (List.forall_mem_cons.mpr ⟨mz_28, (List.forall_mem_cons.mpr ⟨mz_29, (List.forall_mem_cons.mpr ⟨mz_22, (List.forall_mem_cons.mpr ⟨mz_30, (fun _ h => absurd h List.not_mem_nil)⟩)⟩)⟩)⟩)⟩), hz_wsX120⟩)⟩)
set_option maxRecDepth 100000 in
theorem mz_31 : Cond.methodLink RL 24 yX12_end ∈ lw_tbl := lw_t5 _ (List.mem_of_getElem? (i := 193) rfl)
set_option maxRecDepth 100000 in
theorem mz_32 : Cond.instanceMethod yX12_end ∈ lw_tbl := lw_t5 _ (List.mem_of_getElem? (i := 194) rfl)
set_option maxRecDepth 100000 in
theorem mz_33 : Cond.selects RX12 yX12_end yX12_end ∈ lw_tbl := lw_t5 _ (List.mem_of_getElem? (i := 195) rfl)
set_option maxRecDepth 100000 in
theorem mz_34 : Cond.code yX11_text cX11_text 3 (some .int) ∈ lw_tbl := lw_t2 _ (List.mem_of_getElem? (i := 183) rfl)
set_option maxRecDepth 100000 in
theorem mz_35 : Cond.fieldLink RX11 35 "LadleKings" "reader" "LLadleKings$TextReader;" ∈ lw_tbl := lw_t2 _ (List.mem_of_getElem? (i := 125) rfl)
set_option maxRecDepth 100000 in
theorem mz_36 : Cond.fieldLink RX11 118 "LadleKings$TextReader" "faultFound" "I" ∈ lw_tbl := lw_t1 _ (List.mem_of_getElem? (i := 188) rfl)
set_option maxRecDepth 100000 in
theorem mz_37 : Cond.fieldLink RX11 99 "LadleKings" "latestFault" "I" ∈ lw_tbl := lw_t2 _ (List.mem_of_getElem? (i := 135) rfl)
set_option maxRecDepth 100000 in
theorem mz_38 : Cond.fieldLink RX11 10 "LadleKings" "rules" "LLadleKings$Rules;" ∈ lw_tbl := lw_t2 _ (List.mem_of_getElem? (i := 122) rfl)
set_option maxRecDepth 100000 in
theorem mz_39 : Cond.fieldLink RX11 121 "LadleKings$TextReader" "rules" "LLadleKings$Rules;" ∈ lw_tbl := lw_t1 _ (List.mem_of_getElem? (i := 184) rfl)
set_option maxRecDepth 100000 in
theorem mz_40 : Cond.fieldLink RX11 19 "LadleKings" "state" "LLadleKings$State;" ∈ lw_tbl := lw_t2 _ (List.mem_of_getElem? (i := 123) rfl)
set_option maxRecDepth 100000 in
theorem mz_41 : Cond.fieldLink RX11 126 "LadleKings$TextReader" "state" "LLadleKings$State;" ∈ lw_tbl := lw_t1 _ (List.mem_of_getElem? (i := 186) rfl)
set_option maxRecDepth 100000 in
theorem mz_42 : Cond.fieldLink RX11 89 "LadleKings" "imageHeld" "[Z" ∈ lw_tbl := lw_t2 _ (List.mem_of_getElem? (i := 133) rfl)
set_option maxRecDepth 100000 in
theorem mz_43 : Cond.methodLink RX11 114 yX10_readTape ∈ lw_tbl := lw_t2 _ (List.mem_of_getElem? (i := 184) rfl)
set_option maxRecDepth 100000 in
theorem mz_44 : Cond.instanceMethod yX10_readTape ∈ lw_tbl := lw_t2 _ (List.mem_of_getElem? (i := 185) rfl)
set_option maxRecDepth 100000 in
theorem mz_45 : Cond.selects RX10 yX10_readTape yX10_readTape ∈ lw_tbl := lw_t2 _ (List.mem_of_getElem? (i := 186) rfl)
set_option maxRecDepth 100000 in
theorem mz_46 : Cond.initialized RX10 ∈ lw_tbl := lw_t1 _ (List.mem_of_getElem? (i := 6) rfl)
set_option maxRecDepth 100000 in
theorem mz_47 : Cond.code yX10_readTape cX10_readTape 3 (some .int) ∈ lw_tbl := lw_t2 _ (List.mem_of_getElem? (i := 187) rfl)
set_option maxRecDepth 100000 in
theorem mz_48 : Cond.fieldLink RX10 25 "LadleKings$TextReader" "faultFound" "I" ∈ lw_tbl := lw_t1 _ (List.mem_of_getElem? (i := 187) rfl)
set_option maxRecDepth 100000 in
theorem mz_49 : Cond.fieldLink RX10 38 "LadleKings$TextReader" "greatest" "I" ∈ lw_tbl := lw_t1 _ (List.mem_of_getElem? (i := 192) rfl)
set_option maxRecDepth 100000 in
theorem mz_50 : Cond.fieldLink RX10 12 "LadleKings$TextReader" "rules" "LLadleKings$Rules;" ∈ lw_tbl := lw_t1 _ (List.mem_of_getElem? (i := 183) rfl)
set_option maxRecDepth 100000 in
theorem mz_51 : Cond.fieldLink RX10 56 "LadleKings$Rules" "seats" "I" ∈ lw_tbl := lw_t1 _ (List.mem_of_getElem? (i := 39) rfl)
set_option maxRecDepth 100000 in
theorem mz_52 : Cond.fieldLink RX10 45 "LadleKings$TextReader" "tape" "LLadleKings$Tape;" ∈ lw_tbl := lw_t1 _ (List.mem_of_getElem? (i := 182) rfl)
set_option maxRecDepth 100000 in
theorem mz_53 : Cond.fieldLink RX10 59 "LadleKings$Tape" "length" "I" ∈ lw_tbl := lw_t1 _ (List.mem_of_getElem? (i := 150) rfl)
set_option maxRecDepth 100000 in
theorem mz_54 : Cond.fieldLink RX10 29 "LadleKings$TextReader" "faultPlace" "I" ∈ lw_tbl := lw_t1 _ (List.mem_of_getElem? (i := 189) rfl)
set_option maxRecDepth 100000 in
theorem mz_55 : Cond.fieldLink RX10 32 "LadleKings$TextReader" "lines" "I" ∈ lw_tbl := lw_t1 _ (List.mem_of_getElem? (i := 190) rfl)
set_option maxRecDepth 100000 in
theorem mz_56 : Cond.methodLink RX10 49 yX10_begin ∈ lw_tbl := lw_t2 _ (List.mem_of_getElem? (i := 188) rfl)
theorem hz_wsX11_text_r1 : ∀ w ∈ wsX11_text_r1, w ∈ lw_tbl := (List.forall_mem_cons.mpr ⟨mz_35, (List.forall_mem_cons.mpr ⟨mz_2, (List.forall_mem_cons.mpr ⟨mz_3, (List.forall_mem_cons.mpr ⟨mz_36, (List.forall_mem_cons.mpr ⟨mz_37, (List.forall_mem_cons.mpr ⟨mz_38, (List.forall_mem_cons.mpr ⟨mz_39, (List.forall_mem_cons.mpr ⟨mz_40, (List.forall_mem_cons.mpr ⟨mz_41, (List.forall_mem_cons.mpr ⟨mz_42, (List.forall_mem_cons.mpr ⟨mz_43, (List.forall_mem_cons.mpr ⟨mz_44, (List.forall_mem_cons.mpr ⟨mz_45, (List.forall_mem_cons.mpr ⟨mz_46, (List.forall_mem_cons.mpr ⟨mz_47, (List.forall_mem_cons.mpr ⟨mz_48, (List.forall_mem_cons.mpr ⟨mz_49, (List.forall_mem_cons.mpr ⟨mz_50, (List.forall_mem_cons.mpr ⟨mz_51, (List.forall_mem_cons.mpr ⟨mz_52, (List.forall_mem_cons.mpr ⟨mz_53, (List.forall_mem_cons.mpr ⟨mz_54, (List.forall_mem_cons.mpr ⟨mz_55, (List.forall_mem_cons.mpr ⟨mz_56, (fun _ h => absurd h List.not_mem_nil)⟩)⟩)⟩)⟩)⟩)⟩)⟩)⟩)⟩)⟩)⟩)⟩)⟩)⟩)⟩)⟩)⟩)⟩)⟩)⟩)⟩)⟩)⟩)⟩)
set_option maxRecDepth 100000 in
theorem mz_57 : Cond.instanceMethod yX10_begin ∈ lw_tbl := lw_t2 _ (List.mem_of_getElem? (i := 190) rfl)
theorem mz_58 : Cond.selects RX10 yX10_begin yX10_begin ∈ lw_tbl := List.mem_of_getElem? (i := 0) (by decide +kernel)
set_option maxRecDepth 100000 in
theorem mz_59 : Cond.code yX10_begin cX10_begin 1 none ∈ lw_tbl := lw_t2 _ (List.mem_of_getElem? (i := 191) rfl)
set_option maxRecDepth 100000 in
theorem mz_60 : Cond.fieldLink RX10 21 "LadleKings$TextReader" "state" "LLadleKings$State;" ∈ lw_tbl := lw_t1 _ (List.mem_of_getElem? (i := 185) rfl)
set_option maxRecDepth 100000 in
theorem mz_61 : Cond.fieldLink RX10 35 "LadleKings$TextReader" "met" "I" ∈ lw_tbl := lw_t1 _ (List.mem_of_getElem? (i := 191) rfl)
set_option maxRecDepth 100000 in
theorem mz_62 : Cond.methodLink RX10 71 yX6_reset ∈ lw_tbl := lw_t2 _ (List.mem_of_getElem? (i := 192) rfl)
set_option maxRecDepth 100000 in
theorem mz_63 : Cond.instanceMethod yX6_reset ∈ lw_tbl := lw_t2 _ (List.mem_of_getElem? (i := 193) rfl)
set_option maxRecDepth 100000 in
theorem mz_64 : Cond.selects RX6 yX6_reset yX6_reset ∈ lw_tbl := lw_t2 _ (List.mem_of_getElem? (i := 194) rfl)
set_option maxRecDepth 100000 in
theorem mz_65 : Cond.initialized RX6 ∈ lw_tbl := lw_t1 _ (List.mem_of_getElem? (i := 2) rfl)
set_option maxRecDepth 100000 in
theorem mz_66 : Cond.code yX6_reset cX6_reset 1 none ∈ lw_tbl := lw_t2 _ (List.mem_of_getElem? (i := 195) rfl)
set_option maxRecDepth 100000 in
theorem mz_67 : Cond.fieldLink RX6 9 "LadleKings$Rules" "seats" "I" ∈ lw_tbl := lw_t1 _ (List.mem_of_getElem? (i := 36) rfl)
set_option maxRecDepth 100000 in
theorem mz_68 : Cond.fieldLink RX6 15 "LadleKings$Rules" "stirs" "I" ∈ lw_tbl := lw_t1 _ (List.mem_of_getElem? (i := 44) rfl)
set_option maxRecDepth 100000 in
theorem mz_69 : Cond.fieldLink RX6 18 "LadleKings$Rules" "need" "[I" ∈ lw_tbl := lw_t1 _ (List.mem_of_getElem? (i := 51) rfl)
set_option maxRecDepth 100000 in
theorem mz_70 : Cond.methodLink RX6 34 yJ7_fill_53178 ∈ lw_tbl := lw_t2 _ (List.mem_of_getElem? (i := 196) rfl)
set_option maxRecDepth 100000 in
theorem mz_71 : Cond.static yJ7_fill_53178 ∈ lw_tbl := lw_t1 _ (List.mem_of_getElem? (i := 81) rfl)
set_option maxRecDepth 100000 in
theorem mz_72 : Cond.initialized RJ7 ∈ lw_tbl := lw_t1 _ (List.mem_of_getElem? (i := 4) rfl)
set_option maxRecDepth 100000 in
theorem mz_73 : Cond.code yJ7_fill_53178 cJ7_fill_53178 4 none ∈ lw_tbl := lw_t1 _ (List.mem_of_getElem? (i := 82) rfl)
set_option maxRecDepth 100000 in
theorem mz_74 : Cond.methodLink RX10 74 yX8_reset ∈ lw_tbl := lw_t2 _ (List.mem_of_getElem? (i := 197) rfl)
set_option maxRecDepth 100000 in
theorem mz_75 : Cond.instanceMethod yX8_reset ∈ lw_tbl := lw_t2 _ (List.mem_of_getElem? (i := 198) rfl)
set_option maxRecDepth 100000 in
theorem mz_76 : Cond.selects RX8 yX8_reset yX8_reset ∈ lw_tbl := lw_t2 _ (List.mem_of_getElem? (i := 199) rfl)
set_option maxRecDepth 100000 in
theorem mz_77 : Cond.initialized RX8 ∈ lw_tbl := lw_t1 _ (List.mem_of_getElem? (i := 3) rfl)
set_option maxRecDepth 100000 in
theorem mz_78 : Cond.code yX8_reset cX8_reset 1 none ∈ lw_tbl := lw_t2 _ (List.mem_of_getElem? (i := 200) rfl)
set_option maxRecDepth 100000 in
theorem mz_79 : Cond.fieldLink RX8 9 "LadleKings$State" "pieces" "[I" ∈ lw_tbl := lw_t1 _ (List.mem_of_getElem? (i := 83) rfl)
set_option maxRecDepth 100000 in
theorem mz_80 : Cond.fieldLink RX8 15 "LadleKings$State" "friends" "[I" ∈ lw_tbl := lw_t1 _ (List.mem_of_getElem? (i := 88) rfl)
theorem hz_wsX11_text_r2 : ∀ w ∈ wsX11_text_r2, w ∈ lw_tbl := (List.forall_mem_cons.mpr ⟨mz_57, (List.forall_mem_cons.mpr ⟨mz_58, (List.forall_mem_cons.mpr ⟨mz_59, (List.forall_mem_cons.mpr ⟨mz_60, (List.forall_mem_cons.mpr ⟨mz_61, (List.forall_mem_cons.mpr ⟨mz_62, (List.forall_mem_cons.mpr ⟨mz_63, (List.forall_mem_cons.mpr ⟨mz_64, (List.forall_mem_cons.mpr ⟨mz_65, (List.forall_mem_cons.mpr ⟨mz_66, (List.forall_mem_cons.mpr ⟨mz_67, (List.forall_mem_cons.mpr ⟨mz_68, (List.forall_mem_cons.mpr ⟨mz_69, (List.forall_mem_cons.mpr ⟨mz_70, (List.forall_mem_cons.mpr ⟨mz_71, (List.forall_mem_cons.mpr ⟨mz_72, (List.forall_mem_cons.mpr ⟨mz_73, (List.forall_mem_cons.mpr ⟨mz_74, (List.forall_mem_cons.mpr ⟨mz_75, (List.forall_mem_cons.mpr ⟨mz_76, (List.forall_mem_cons.mpr ⟨mz_77, (List.forall_mem_cons.mpr ⟨mz_78, (List.forall_mem_cons.mpr ⟨mz_79, (List.forall_mem_cons.mpr ⟨mz_80, (fun _ h => absurd h List.not_mem_nil)⟩)⟩)⟩)⟩)⟩)⟩)⟩)⟩)⟩)⟩)⟩)⟩)⟩)⟩)⟩)⟩)⟩)⟩)⟩)⟩)⟩)⟩)⟩)⟩)
set_option maxRecDepth 100000 in
theorem mz_81 : Cond.fieldLink RX8 18 "LadleKings$State" "spoons" "[I" ∈ lw_tbl := lw_t1 _ (List.mem_of_getElem? (i := 90) rfl)
set_option maxRecDepth 100000 in
theorem mz_82 : Cond.fieldLink RX8 21 "LadleKings$State" "eaten" "[I" ∈ lw_tbl := lw_t1 _ (List.mem_of_getElem? (i := 94) rfl)
set_option maxRecDepth 100000 in
theorem mz_83 : Cond.fieldLink RX8 27 "LadleKings$State" "seenDays" "I" ∈ lw_tbl := lw_t1 _ (List.mem_of_getElem? (i := 100) rfl)
set_option maxRecDepth 100000 in
theorem mz_84 : Cond.fieldLink RX8 31 "LadleKings$State" "bone" "I" ∈ lw_tbl := lw_t1 _ (List.mem_of_getElem? (i := 103) rfl)
set_option maxRecDepth 100000 in
theorem mz_85 : Cond.fieldLink RX8 34 "LadleKings$State" "king" "I" ∈ lw_tbl := lw_t1 _ (List.mem_of_getElem? (i := 111) rfl)
set_option maxRecDepth 100000 in
theorem mz_86 : Cond.fieldLink RX8 37 "LadleKings$State" "days" "I" ∈ lw_tbl := lw_t1 _ (List.mem_of_getElem? (i := 119) rfl)
set_option maxRecDepth 100000 in
theorem mz_87 : Cond.methodLink RX8 40 yJ7_fill_53178 ∈ lw_tbl := lw_t1 _ (List.mem_of_getElem? (i := 80) rfl)
set_option maxRecDepth 100000 in
theorem mz_88 : Cond.methodLink RX10 75 yX9_rewind ∈ lw_tbl := lw_t2 _ (List.mem_of_getElem? (i := 201) rfl)
set_option maxRecDepth 100000 in
theorem mz_89 : Cond.instanceMethod yX9_rewind ∈ lw_tbl := lw_t2 _ (List.mem_of_getElem? (i := 202) rfl)
set_option maxRecDepth 100000 in
theorem mz_90 : Cond.selects RX9 yX9_rewind yX9_rewind ∈ lw_tbl := lw_t2 _ (List.mem_of_getElem? (i := 203) rfl)
set_option maxRecDepth 100000 in
theorem mz_91 : Cond.code yX9_rewind cX9_rewind 1 none ∈ lw_tbl := lw_t2 _ (List.mem_of_getElem? (i := 204) rfl)
set_option maxRecDepth 100000 in
theorem mz_92 : Cond.fieldLink RX9 19 "LadleKings$Tape" "at" "I" ∈ lw_tbl := lw_t1 _ (List.mem_of_getElem? (i := 151) rfl)
set_option maxRecDepth 100000 in
theorem mz_93 : Cond.methodLink RX10 52 yX10_readLine ∈ lw_tbl := lw_t2 _ (List.mem_of_getElem? (i := 205) rfl)
set_option maxRecDepth 100000 in
theorem mz_94 : Cond.instanceMethod yX10_readLine ∈ lw_tbl := lw_t2 _ (List.mem_of_getElem? (i := 207) rfl)
theorem mz_95 : Cond.selects RX10 yX10_readLine yX10_readLine ∈ lw_tbl := List.mem_of_getElem? (i := 1) (by decide +kernel)
set_option maxRecDepth 100000 in
theorem mz_96 : Cond.code yX10_readLine cX10_readLine 4 (some .boolean) ∈ lw_tbl := lw_t2 _ (List.mem_of_getElem? (i := 208) rfl)
set_option maxRecDepth 100000 in
theorem mz_97 : Cond.fieldLink RX10 81 "LadleKings$Tape" "token" "I" ∈ lw_tbl := lw_t1 _ (List.mem_of_getElem? (i := 153) rfl)
set_option maxRecDepth 100000 in
theorem mz_98 : Cond.fieldLink RX10 92 "LadleKings$Tape" "start" "I" ∈ lw_tbl := lw_t1 _ (List.mem_of_getElem? (i := 155) rfl)
set_option maxRecDepth 100000 in
theorem mz_99 : Cond.fieldLink RX10 95 "LadleKings$TextReader" "MOST" "[I" ∈ lw_tbl := lw_t3 _ (List.mem_of_getElem? (i := 65) rfl)
set_option maxRecDepth 100000 in
theorem mz_100 : Cond.fieldLink RX10 98 "LadleKings$TextReader" "FEWEST" "[I" ∈ lw_tbl := lw_t3 _ (List.mem_of_getElem? (i := 67) rfl)
set_option maxRecDepth 100000 in
theorem mz_101 : Cond.fieldLink RX10 41 "LadleKings$TextReader" "numbers" "[I" ∈ lw_tbl := lw_t1 _ (List.mem_of_getElem? (i := 193) rfl)
set_option maxRecDepth 100000 in
theorem mz_102 : Cond.fieldLink RX10 109 "LadleKings$Tape" "value" "I" ∈ lw_tbl := lw_t1 _ (List.mem_of_getElem? (i := 157) rfl)
set_option maxRecDepth 100000 in
theorem mz_103 : Cond.methodLink RX10 78 yX9_readToken ∈ lw_tbl := lw_t2 _ (List.mem_of_getElem? (i := 209) rfl)
theorem hz_wsX11_text_r3 : ∀ w ∈ wsX11_text_r3, w ∈ lw_tbl := (List.forall_mem_cons.mpr ⟨mz_81, (List.forall_mem_cons.mpr ⟨mz_82, (List.forall_mem_cons.mpr ⟨mz_83, (List.forall_mem_cons.mpr ⟨mz_84, (List.forall_mem_cons.mpr ⟨mz_85, (List.forall_mem_cons.mpr ⟨mz_86, (List.forall_mem_cons.mpr ⟨mz_87, (List.forall_mem_cons.mpr ⟨mz_88, (List.forall_mem_cons.mpr ⟨mz_89, (List.forall_mem_cons.mpr ⟨mz_90, (List.forall_mem_cons.mpr ⟨mz_7, (List.forall_mem_cons.mpr ⟨mz_91, (List.forall_mem_cons.mpr ⟨mz_92, (List.forall_mem_cons.mpr ⟨mz_93, (List.forall_mem_cons.mpr ⟨mz_94, (List.forall_mem_cons.mpr ⟨mz_95, (List.forall_mem_cons.mpr ⟨mz_96, (List.forall_mem_cons.mpr ⟨mz_97, (List.forall_mem_cons.mpr ⟨mz_98, (List.forall_mem_cons.mpr ⟨mz_99, (List.forall_mem_cons.mpr ⟨mz_100, (List.forall_mem_cons.mpr ⟨mz_101, (List.forall_mem_cons.mpr ⟨mz_102, (List.forall_mem_cons.mpr ⟨mz_103, (fun _ h => absurd h List.not_mem_nil)⟩)⟩)⟩)⟩)⟩)⟩)⟩)⟩)⟩)⟩)⟩)⟩)⟩)⟩)⟩)⟩)⟩)⟩)⟩)⟩)⟩)⟩)⟩)⟩)
set_option maxRecDepth 100000 in
theorem mz_104 : Cond.instanceMethod yX9_readToken ∈ lw_tbl := lw_t2 _ (List.mem_of_getElem? (i := 210) rfl)
set_option maxRecDepth 100000 in
theorem mz_105 : Cond.selects RX9 yX9_readToken yX9_readToken ∈ lw_tbl := lw_t2 _ (List.mem_of_getElem? (i := 211) rfl)
set_option maxRecDepth 100000 in
theorem mz_106 : Cond.code yX9_readToken cX9_readToken 1 none ∈ lw_tbl := lw_t2 _ (List.mem_of_getElem? (i := 212) rfl)
set_option maxRecDepth 100000 in
theorem mz_107 : Cond.fieldLink RX9 25 "LadleKings$Tape" "start" "I" ∈ lw_tbl := lw_t1 _ (List.mem_of_getElem? (i := 154) rfl)
set_option maxRecDepth 100000 in
theorem mz_108 : Cond.fieldLink RX9 22 "LadleKings$Tape" "token" "I" ∈ lw_tbl := lw_t1 _ (List.mem_of_getElem? (i := 152) rfl)
set_option maxRecDepth 100000 in
theorem mz_109 : Cond.methodLink RX9 31 yX9_isLetter ∈ lw_tbl := lw_t2 _ (List.mem_of_getElem? (i := 213) rfl)
set_option maxRecDepth 100000 in
theorem mz_110 : Cond.static yX9_isLetter ∈ lw_tbl := lw_t2 _ (List.mem_of_getElem? (i := 214) rfl)
set_option maxRecDepth 100000 in
theorem mz_111 : Cond.code yX9_isLetter cX9_isLetter 1 (some .boolean) ∈ lw_tbl := lw_t2 _ (List.mem_of_getElem? (i := 215) rfl)
set_option maxRecDepth 100000 in
theorem mz_112 : Cond.methodLink RX9 35 yX9_readName ∈ lw_tbl := lw_t2 _ (List.mem_of_getElem? (i := 216) rfl)
set_option maxRecDepth 100000 in
theorem mz_113 : Cond.instanceMethod yX9_readName ∈ lw_tbl := lw_t2 _ (List.mem_of_getElem? (i := 218) rfl)
theorem mz_114 : Cond.selects RX9 yX9_readName yX9_readName ∈ lw_tbl := List.mem_of_getElem? (i := 2) (by decide +kernel)
set_option maxRecDepth 100000 in
theorem mz_115 : Cond.code yX9_readName cX9_readName 1 none ∈ lw_tbl := lw_t2 _ (List.mem_of_getElem? (i := 219) rfl)
set_option maxRecDepth 100000 in
theorem mz_116 : Cond.methodLink RX9 38 yX9_isFigure ∈ lw_tbl := lw_t2 _ (List.mem_of_getElem? (i := 220) rfl)
set_option maxRecDepth 100000 in
theorem mz_117 : Cond.static yX9_isFigure ∈ lw_tbl := lw_t2 _ (List.mem_of_getElem? (i := 221) rfl)
set_option maxRecDepth 100000 in
theorem mz_118 : Cond.code yX9_isFigure cX9_isFigure 1 (some .boolean) ∈ lw_tbl := lw_t2 _ (List.mem_of_getElem? (i := 222) rfl)
set_option maxRecDepth 100000 in
theorem mz_119 : Cond.methodLink RX9 41 yX9_readFigures ∈ lw_tbl := lw_t2 _ (List.mem_of_getElem? (i := 223) rfl)
set_option maxRecDepth 100000 in
theorem mz_120 : Cond.instanceMethod yX9_readFigures ∈ lw_tbl := lw_t2 _ (List.mem_of_getElem? (i := 225) rfl)
theorem mz_121 : Cond.selects RX9 yX9_readFigures yX9_readFigures ∈ lw_tbl := List.mem_of_getElem? (i := 3) (by decide +kernel)
set_option maxRecDepth 100000 in
theorem mz_122 : Cond.code yX9_readFigures cX9_readFigures 1 none ∈ lw_tbl := lw_t2 _ (List.mem_of_getElem? (i := 226) rfl)
set_option maxRecDepth 100000 in
theorem mz_123 : Cond.fieldLink RX9 28 "LadleKings$Tape" "value" "I" ∈ lw_tbl := lw_t1 _ (List.mem_of_getElem? (i := 156) rfl)
set_option maxRecDepth 100000 in
theorem mz_124 : Cond.methodLink RX10 84 yX10_nameRead ∈ lw_tbl := lw_t2 _ (List.mem_of_getElem? (i := 227) rfl)
set_option maxRecDepth 100000 in
theorem mz_125 : Cond.instanceMethod yX10_nameRead ∈ lw_tbl := lw_t2 _ (List.mem_of_getElem? (i := 229) rfl)
theorem hz_wsX11_text_r4 : ∀ w ∈ wsX11_text_r4, w ∈ lw_tbl := (List.forall_mem_cons.mpr ⟨mz_104, (List.forall_mem_cons.mpr ⟨mz_105, (List.forall_mem_cons.mpr ⟨mz_106, (List.forall_mem_cons.mpr ⟨mz_9, (List.forall_mem_cons.mpr ⟨mz_10, (List.forall_mem_cons.mpr ⟨mz_107, (List.forall_mem_cons.mpr ⟨mz_108, (List.forall_mem_cons.mpr ⟨mz_109, (List.forall_mem_cons.mpr ⟨mz_110, (List.forall_mem_cons.mpr ⟨mz_111, (List.forall_mem_cons.mpr ⟨mz_112, (List.forall_mem_cons.mpr ⟨mz_113, (List.forall_mem_cons.mpr ⟨mz_114, (List.forall_mem_cons.mpr ⟨mz_115, (List.forall_mem_cons.mpr ⟨mz_116, (List.forall_mem_cons.mpr ⟨mz_117, (List.forall_mem_cons.mpr ⟨mz_118, (List.forall_mem_cons.mpr ⟨mz_119, (List.forall_mem_cons.mpr ⟨mz_120, (List.forall_mem_cons.mpr ⟨mz_121, (List.forall_mem_cons.mpr ⟨mz_122, (List.forall_mem_cons.mpr ⟨mz_123, (List.forall_mem_cons.mpr ⟨mz_124, (List.forall_mem_cons.mpr ⟨mz_125, (fun _ h => absurd h List.not_mem_nil)⟩)⟩)⟩)⟩)⟩)⟩)⟩)⟩)⟩)⟩)⟩)⟩)⟩)⟩)⟩)⟩)⟩)⟩)⟩)⟩)⟩)⟩)⟩)⟩)
theorem mz_126 : Cond.selects RX10 yX10_nameRead yX10_nameRead ∈ lw_tbl := List.mem_of_getElem? (i := 4) (by decide +kernel)
set_option maxRecDepth 100000 in
theorem mz_127 : Cond.code yX10_nameRead cX10_nameRead 2 (some .int) ∈ lw_tbl := lw_t2 _ (List.mem_of_getElem? (i := 230) rfl)
set_option maxRecDepth 100000 in
theorem mz_128 : Cond.methodLink RX10 112 yX10_nameOf ∈ lw_tbl := lw_t2 _ (List.mem_of_getElem? (i := 231) rfl)
set_option maxRecDepth 100000 in
theorem mz_129 : Cond.static yX10_nameOf ∈ lw_tbl := lw_t2 _ (List.mem_of_getElem? (i := 232) rfl)
set_option maxRecDepth 100000 in
theorem mz_130 : Cond.code yX10_nameOf cX10_nameOf 1 (some (.object "java/lang/String")) ∈ lw_tbl := lw_t2 _ (List.mem_of_getElem? (i := 233) rfl)
set_option maxRecDepth 100000 in
theorem mz_131 : Cond.methodLink RX10 116 yX9_isNamed ∈ lw_tbl := lw_t3 _ (List.mem_of_getElem? (i := 5) rfl)
set_option maxRecDepth 100000 in
theorem mz_132 : Cond.instanceMethod yX9_isNamed ∈ lw_tbl := lw_t3 _ (List.mem_of_getElem? (i := 6) rfl)
set_option maxRecDepth 100000 in
theorem mz_133 : Cond.selects RX9 yX9_isNamed yX9_isNamed ∈ lw_tbl := lw_t3 _ (List.mem_of_getElem? (i := 7) rfl)
set_option maxRecDepth 100000 in
theorem mz_134 : Cond.code yX9_isNamed cX9_isNamed 3 (some .boolean) ∈ lw_tbl := lw_t3 _ (List.mem_of_getElem? (i := 8) rfl)
set_option maxRecDepth 100000 in
theorem mz_135 : Cond.methodLink RX9 44 yJ0_length_8abf5 ∈ lw_tbl := lw_t3 _ (List.mem_of_getElem? (i := 9) rfl)
set_option maxRecDepth 100000 in
theorem mz_136 : Cond.instanceMethod yJ0_length_8abf5 ∈ lw_tbl := lw_t3 _ (List.mem_of_getElem? (i := 10) rfl)
set_option maxRecDepth 100000 in
theorem mz_137 : Cond.selects RJ0 yJ0_length_8abf5 yJ0_length_8abf5 ∈ lw_tbl := lw_t3 _ (List.mem_of_getElem? (i := 11) rfl)
set_option maxRecDepth 100000 in
theorem mz_138 : Cond.initialized RJ0 ∈ lw_tbl := lw_t1 _ (List.mem_of_getElem? (i := 15) rfl)
set_option maxRecDepth 100000 in
theorem mz_139 : Cond.code yJ0_length_8abf5 cJ0_length_8abf5 1 (some .int) ∈ lw_tbl := lw_t3 _ (List.mem_of_getElem? (i := 12) rfl)
set_option maxRecDepth 100000 in
theorem mz_140 : Cond.fieldLink RJ0 9 "java/lang/String" "value" "[B" ∈ lw_tbl := lw_t7 _ (List.mem_of_getElem? (i := 43) rfl)
set_option maxRecDepth 100000 in
theorem mz_141 : Cond.methodLink RJ0 335 yJ0_coder_7d493 ∈ lw_tbl := lw_t3 _ (List.mem_of_getElem? (i := 13) rfl)
set_option maxRecDepth 100000 in
theorem mz_142 : Cond.instanceMethod yJ0_coder_7d493 ∈ lw_tbl := lw_t3 _ (List.mem_of_getElem? (i := 14) rfl)
set_option maxRecDepth 100000 in
theorem mz_143 : Cond.selects RJ0 yJ0_coder_7d493 yJ0_coder_7d493 ∈ lw_tbl := lw_t3 _ (List.mem_of_getElem? (i := 15) rfl)
set_option maxRecDepth 100000 in
theorem mz_144 : Cond.code yJ0_coder_7d493 cJ0_coder_7d493 1 (some .byte) ∈ lw_tbl := lw_t3 _ (List.mem_of_getElem? (i := 16) rfl)
set_option maxRecDepth 100000 in
theorem mz_145 : Cond.fieldLink RJ0 38 "java/lang/String" "COMPACT_STRINGS" "Z" ∈ lw_tbl := lw_t3 _ (List.mem_of_getElem? (i := 17) rfl)
set_option maxRecDepth 100000 in
theorem mz_146 : Cond.fieldLink RJ0 15 "java/lang/String" "coder" "B" ∈ lw_tbl := lw_t7 _ (List.mem_of_getElem? (i := 44) rfl)
set_option maxRecDepth 100000 in
theorem mz_147 : Cond.methodLink RX9 49 yJ0_charAt_5068e ∈ lw_tbl := lw_t3 _ (List.mem_of_getElem? (i := 19) rfl)
set_option maxRecDepth 100000 in
theorem mz_148 : Cond.instanceMethod yJ0_charAt_5068e ∈ lw_tbl := lw_t3 _ (List.mem_of_getElem? (i := 20) rfl)
set_option maxRecDepth 100000 in
theorem mz_149 : Cond.selects RJ0 yJ0_charAt_5068e yJ0_charAt_5068e ∈ lw_tbl := lw_t3 _ (List.mem_of_getElem? (i := 21) rfl)
theorem hz_wsX11_text_r5 : ∀ w ∈ wsX11_text_r5, w ∈ lw_tbl := (List.forall_mem_cons.mpr ⟨mz_126, (List.forall_mem_cons.mpr ⟨mz_127, (List.forall_mem_cons.mpr ⟨mz_128, (List.forall_mem_cons.mpr ⟨mz_129, (List.forall_mem_cons.mpr ⟨mz_130, (List.forall_mem_cons.mpr ⟨mz_131, (List.forall_mem_cons.mpr ⟨mz_132, (List.forall_mem_cons.mpr ⟨mz_133, (List.forall_mem_cons.mpr ⟨mz_134, (List.forall_mem_cons.mpr ⟨mz_135, (List.forall_mem_cons.mpr ⟨mz_136, (List.forall_mem_cons.mpr ⟨mz_137, (List.forall_mem_cons.mpr ⟨mz_138, (List.forall_mem_cons.mpr ⟨mz_139, (List.forall_mem_cons.mpr ⟨mz_140, (List.forall_mem_cons.mpr ⟨mz_141, (List.forall_mem_cons.mpr ⟨mz_142, (List.forall_mem_cons.mpr ⟨mz_143, (List.forall_mem_cons.mpr ⟨mz_144, (List.forall_mem_cons.mpr ⟨mz_145, (List.forall_mem_cons.mpr ⟨mz_146, (List.forall_mem_cons.mpr ⟨mz_147, (List.forall_mem_cons.mpr ⟨mz_148, (List.forall_mem_cons.mpr ⟨mz_149, (fun _ h => absurd h List.not_mem_nil)⟩)⟩)⟩)⟩)⟩)⟩)⟩)⟩)⟩)⟩)⟩)⟩)⟩)⟩)⟩)⟩)⟩)⟩)⟩)⟩)⟩)⟩)⟩)⟩)
set_option maxRecDepth 100000 in
theorem mz_150 : Cond.code yJ0_charAt_5068e cJ0_charAt_5068e 2 (some .char) ∈ lw_tbl := lw_t3 _ (List.mem_of_getElem? (i := 22) rfl)
set_option maxRecDepth 100000 in
theorem mz_151 : Cond.methodLink RJ0 492 yJ0_isLatin1_aae02 ∈ lw_tbl := lw_t3 _ (List.mem_of_getElem? (i := 23) rfl)
set_option maxRecDepth 100000 in
theorem mz_152 : Cond.instanceMethod yJ0_isLatin1_aae02 ∈ lw_tbl := lw_t3 _ (List.mem_of_getElem? (i := 24) rfl)
set_option maxRecDepth 100000 in
theorem mz_153 : Cond.selects RJ0 yJ0_isLatin1_aae02 yJ0_isLatin1_aae02 ∈ lw_tbl := lw_t3 _ (List.mem_of_getElem? (i := 25) rfl)
set_option maxRecDepth 100000 in
theorem mz_154 : Cond.code yJ0_isLatin1_aae02 cJ0_isLatin1_aae02 1 (some .boolean) ∈ lw_tbl := lw_t3 _ (List.mem_of_getElem? (i := 26) rfl)
set_option maxRecDepth 100000 in
theorem mz_155 : Cond.methodLink RJ0 495 yJ1_charAt_3b067 ∈ lw_tbl := lw_t3 _ (List.mem_of_getElem? (i := 27) rfl)
set_option maxRecDepth 100000 in
theorem mz_156 : Cond.static yJ1_charAt_3b067 ∈ lw_tbl := lw_t3 _ (List.mem_of_getElem? (i := 28) rfl)
set_option maxRecDepth 100000 in
theorem mz_157 : Cond.initialized RJ1 ∈ lw_tbl := lw_t1 _ (List.mem_of_getElem? (i := 16) rfl)
set_option maxRecDepth 100000 in
theorem mz_158 : Cond.code yJ1_charAt_3b067 cJ1_charAt_3b067 2 (some .char) ∈ lw_tbl := lw_t3 _ (List.mem_of_getElem? (i := 29) rfl)
set_option maxRecDepth 100000 in
theorem mz_159 : Cond.methodLink RJ1 9 yJ0_checkIndex_df160 ∈ lw_tbl := lw_t3 _ (List.mem_of_getElem? (i := 30) rfl)
set_option maxRecDepth 100000 in
theorem mz_160 : Cond.static yJ0_checkIndex_df160 ∈ lw_tbl := lw_t3 _ (List.mem_of_getElem? (i := 31) rfl)
set_option maxRecDepth 100000 in
theorem mz_161 : Cond.code yJ0_checkIndex_df160 cJ0_checkIndex_df160 2 none ∈ lw_tbl := lw_t3 _ (List.mem_of_getElem? (i := 32) rfl)
set_option maxRecDepth 100000 in
theorem mz_162 : Cond.fieldLink RJ0 1053 "jdk/internal/util/Preconditions" "SIOOBE_FORMATTER" "Ljava/util/function/BiFunction;" ∈ lw_tbl := lw_t3 _ (List.mem_of_getElem? (i := 33) rfl)
set_option maxRecDepth 100000 in
theorem mz_163 : Cond.methodLink RJ0 1059 yJ3_checkIndex_8e157 ∈ lw_tbl := lw_t3 _ (List.mem_of_getElem? (i := 35) rfl)
set_option maxRecDepth 100000 in
theorem mz_164 : Cond.static yJ3_checkIndex_8e157 ∈ lw_tbl := lw_t3 _ (List.mem_of_getElem? (i := 36) rfl)
set_option maxRecDepth 100000 in
theorem mz_165 : Cond.initialized RJ3 ∈ lw_tbl := lw_t1 _ (List.mem_of_getElem? (i := 17) rfl)
set_option maxRecDepth 100000 in
theorem mz_166 : Cond.code yJ3_checkIndex_8e157 cJ3_checkIndex_8e157 3 (some .int) ∈ lw_tbl := lw_t3 _ (List.mem_of_getElem? (i := 37) rfl)
set_option maxRecDepth 100000 in
theorem mz_167 : Cond.methodLink RJ0 498 yJ2_charAt_3b067 ∈ lw_tbl := lw_t3 _ (List.mem_of_getElem? (i := 38) rfl)
set_option maxRecDepth 100000 in
theorem mz_168 : Cond.static yJ2_charAt_3b067 ∈ lw_tbl := lw_t3 _ (List.mem_of_getElem? (i := 39) rfl)
set_option maxRecDepth 100000 in
theorem mz_169 : Cond.initialized RJ2 ∈ lw_tbl := lw_t1 _ (List.mem_of_getElem? (i := 18) rfl)
set_option maxRecDepth 100000 in
theorem mz_170 : Cond.code yJ2_charAt_3b067 cJ2_charAt_3b067 2 (some .char) ∈ lw_tbl := lw_t3 _ (List.mem_of_getElem? (i := 40) rfl)
set_option maxRecDepth 100000 in
theorem mz_171 : Cond.methodLink RJ2 67 yJ2_checkIndex_2214a ∈ lw_tbl := lw_t3 _ (List.mem_of_getElem? (i := 41) rfl)
set_option maxRecDepth 100000 in
theorem mz_172 : Cond.static yJ2_checkIndex_2214a ∈ lw_tbl := lw_t3 _ (List.mem_of_getElem? (i := 42) rfl)
set_option maxRecDepth 100000 in
theorem mz_173 : Cond.code yJ2_checkIndex_2214a cJ2_checkIndex_2214a 2 none ∈ lw_tbl := lw_t3 _ (List.mem_of_getElem? (i := 43) rfl)
theorem hz_wsX11_text_r6 : ∀ w ∈ wsX11_text_r6, w ∈ lw_tbl := (List.forall_mem_cons.mpr ⟨mz_150, (List.forall_mem_cons.mpr ⟨mz_151, (List.forall_mem_cons.mpr ⟨mz_152, (List.forall_mem_cons.mpr ⟨mz_153, (List.forall_mem_cons.mpr ⟨mz_154, (List.forall_mem_cons.mpr ⟨mz_155, (List.forall_mem_cons.mpr ⟨mz_156, (List.forall_mem_cons.mpr ⟨mz_157, (List.forall_mem_cons.mpr ⟨mz_158, (List.forall_mem_cons.mpr ⟨mz_159, (List.forall_mem_cons.mpr ⟨mz_160, (List.forall_mem_cons.mpr ⟨mz_161, (List.forall_mem_cons.mpr ⟨mz_162, (List.forall_mem_cons.mpr ⟨mz_163, (List.forall_mem_cons.mpr ⟨mz_164, (List.forall_mem_cons.mpr ⟨mz_165, (List.forall_mem_cons.mpr ⟨mz_166, (List.forall_mem_cons.mpr ⟨mz_167, (List.forall_mem_cons.mpr ⟨mz_168, (List.forall_mem_cons.mpr ⟨mz_169, (List.forall_mem_cons.mpr ⟨mz_170, (List.forall_mem_cons.mpr ⟨mz_171, (List.forall_mem_cons.mpr ⟨mz_172, (List.forall_mem_cons.mpr ⟨mz_173, (fun _ h => absurd h List.not_mem_nil)⟩)⟩)⟩)⟩)⟩)⟩)⟩)⟩)⟩)⟩)⟩)⟩)⟩)⟩)⟩)⟩)⟩)⟩)⟩)⟩)⟩)⟩)⟩)⟩)
set_option maxRecDepth 100000 in
theorem mz_174 : Cond.methodLink RJ2 48 yJ2_length_9d52b ∈ lw_tbl := lw_t3 _ (List.mem_of_getElem? (i := 44) rfl)
set_option maxRecDepth 100000 in
theorem mz_175 : Cond.static yJ2_length_9d52b ∈ lw_tbl := lw_t3 _ (List.mem_of_getElem? (i := 45) rfl)
set_option maxRecDepth 100000 in
theorem mz_176 : Cond.code yJ2_length_9d52b cJ2_length_9d52b 1 (some .int) ∈ lw_tbl := lw_t3 _ (List.mem_of_getElem? (i := 46) rfl)
set_option maxRecDepth 100000 in
theorem mz_177 : Cond.methodLink RJ2 414 yJ0_checkIndex_df160 ∈ lw_tbl := lw_t3 _ (List.mem_of_getElem? (i := 47) rfl)
set_option maxRecDepth 100000 in
theorem mz_178 : Cond.methodLink RJ2 71 yJ2_getChar_3b067 ∈ lw_tbl := lw_t3 _ (List.mem_of_getElem? (i := 48) rfl)
set_option maxRecDepth 100000 in
theorem mz_179 : Cond.static yJ2_getChar_3b067 ∈ lw_tbl := lw_t3 _ (List.mem_of_getElem? (i := 49) rfl)
set_option maxRecDepth 100000 in
theorem mz_180 : Cond.code yJ2_getChar_3b067 cJ2_getChar_3b067 2 (some .char) ∈ lw_tbl := lw_t3 _ (List.mem_of_getElem? (i := 50) rfl)
set_option maxRecDepth 100000 in
theorem mz_181 : Cond.fieldLink RJ2 44 "java/lang/StringUTF16" "$assertionsDisabled" "Z" ∈ lw_tbl := lw_t3 _ (List.mem_of_getElem? (i := 51) rfl)
set_option maxRecDepth 100000 in
theorem mz_182 : Cond.fieldLink RJ2 59 "java/lang/StringUTF16" "HI_BYTE_SHIFT" "I" ∈ lw_tbl := lw_t3 _ (List.mem_of_getElem? (i := 53) rfl)
set_option maxRecDepth 100000 in
theorem mz_183 : Cond.fieldLink RJ2 63 "java/lang/StringUTF16" "LO_BYTE_SHIFT" "I" ∈ lw_tbl := lw_t3 _ (List.mem_of_getElem? (i := 55) rfl)
set_option maxRecDepth 100000 in
theorem mz_184 : Cond.methodLink RX10 88 yX10_faultOfName ∈ lw_tbl := lw_t3 _ (List.mem_of_getElem? (i := 57) rfl)
set_option maxRecDepth 100000 in
theorem mz_185 : Cond.instanceMethod yX10_faultOfName ∈ lw_tbl := lw_t3 _ (List.mem_of_getElem? (i := 59) rfl)
theorem mz_186 : Cond.selects RX10 yX10_faultOfName yX10_faultOfName ∈ lw_tbl := List.mem_of_getElem? (i := 5) (by decide +kernel)
set_option maxRecDepth 100000 in
theorem mz_187 : Cond.code yX10_faultOfName cX10_faultOfName 2 (some .int) ∈ lw_tbl := lw_t3 _ (List.mem_of_getElem? (i := 60) rfl)
set_option maxRecDepth 100000 in
theorem mz_188 : Cond.fieldLink RX10 141 "LadleKings$Rules" "stirs" "I" ∈ lw_tbl := lw_t1 _ (List.mem_of_getElem? (i := 49) rfl)
set_option maxRecDepth 100000 in
theorem mz_189 : Cond.methodLink RX10 64 yX10_refuse ∈ lw_tbl := lw_t3 _ (List.mem_of_getElem? (i := 61) rfl)
set_option maxRecDepth 100000 in
theorem mz_190 : Cond.instanceMethod yX10_refuse ∈ lw_tbl := lw_t3 _ (List.mem_of_getElem? (i := 63) rfl)
theorem mz_191 : Cond.selects RX10 yX10_refuse yX10_refuse ∈ lw_tbl := List.mem_of_getElem? (i := 6) (by decide +kernel)
set_option maxRecDepth 100000 in
theorem mz_192 : Cond.code yX10_refuse cX10_refuse 3 (some .boolean) ∈ lw_tbl := lw_t3 _ (List.mem_of_getElem? (i := 64) rfl)
set_option maxRecDepth 100000 in
theorem mz_193 : Cond.methodLink RX10 101 yX10_takeLine ∈ lw_tbl := lw_t3 _ (List.mem_of_getElem? (i := 69) rfl)
set_option maxRecDepth 100000 in
theorem mz_194 : Cond.instanceMethod yX10_takeLine ∈ lw_tbl := lw_t3 _ (List.mem_of_getElem? (i := 71) rfl)
theorem mz_195 : Cond.selects RX10 yX10_takeLine yX10_takeLine ∈ lw_tbl := List.mem_of_getElem? (i := 7) (by decide +kernel)
set_option maxRecDepth 100000 in
theorem mz_196 : Cond.code yX10_takeLine cX10_takeLine 5 none ∈ lw_tbl := lw_t3 _ (List.mem_of_getElem? (i := 72) rfl)
set_option maxRecDepth 100000 in
theorem mz_197 : Cond.fieldLink RX10 163 "LadleKings$State" "pieces" "[I" ∈ lw_tbl := lw_t1 _ (List.mem_of_getElem? (i := 87) rfl)
theorem hz_wsX11_text_r7 : ∀ w ∈ wsX11_text_r7, w ∈ lw_tbl := (List.forall_mem_cons.mpr ⟨mz_174, (List.forall_mem_cons.mpr ⟨mz_175, (List.forall_mem_cons.mpr ⟨mz_176, (List.forall_mem_cons.mpr ⟨mz_177, (List.forall_mem_cons.mpr ⟨mz_178, (List.forall_mem_cons.mpr ⟨mz_179, (List.forall_mem_cons.mpr ⟨mz_180, (List.forall_mem_cons.mpr ⟨mz_181, (List.forall_mem_cons.mpr ⟨mz_182, (List.forall_mem_cons.mpr ⟨mz_183, (List.forall_mem_cons.mpr ⟨mz_184, (List.forall_mem_cons.mpr ⟨mz_185, (List.forall_mem_cons.mpr ⟨mz_186, (List.forall_mem_cons.mpr ⟨mz_187, (List.forall_mem_cons.mpr ⟨mz_188, (List.forall_mem_cons.mpr ⟨mz_189, (List.forall_mem_cons.mpr ⟨mz_190, (List.forall_mem_cons.mpr ⟨mz_191, (List.forall_mem_cons.mpr ⟨mz_192, (List.forall_mem_cons.mpr ⟨mz_193, (List.forall_mem_cons.mpr ⟨mz_194, (List.forall_mem_cons.mpr ⟨mz_195, (List.forall_mem_cons.mpr ⟨mz_196, (List.forall_mem_cons.mpr ⟨mz_197, (fun _ h => absurd h List.not_mem_nil)⟩)⟩)⟩)⟩)⟩)⟩)⟩)⟩)⟩)⟩)⟩)⟩)⟩)⟩)⟩)⟩)⟩)⟩)⟩)⟩)⟩)⟩)⟩)⟩)
set_option maxRecDepth 100000 in
theorem mz_198 : Cond.methodLink RX10 166 arraycopyName ∈ lw_tbl := lw_t3 _ (List.mem_of_getElem? (i := 73) rfl)
set_option maxRecDepth 100000 in
theorem mz_199 : Cond.native arraycopyName ∈ lw_tbl := lw_t3 _ (List.mem_of_getElem? (i := 75) rfl)
set_option maxRecDepth 100000 in
theorem mz_200 : Cond.static arraycopyName ∈ lw_tbl := lw_t3 _ (List.mem_of_getElem? (i := 74) rfl)
set_option maxRecDepth 100000 in
theorem mz_201 : Cond.initialized "java/lang/System" ∈ lw_tbl := lw_t1 _ (List.mem_of_getElem? (i := 19) rfl)
set_option maxRecDepth 100000 in
theorem mz_202 : Cond.fieldLink RX10 176 "LadleKings$State" "bone" "I" ∈ lw_tbl := lw_t1 _ (List.mem_of_getElem? (i := 110) rfl)
set_option maxRecDepth 100000 in
theorem mz_203 : Cond.fieldLink RX10 178 "LadleKings$State" "king" "I" ∈ lw_tbl := lw_t1 _ (List.mem_of_getElem? (i := 118) rfl)
set_option maxRecDepth 100000 in
theorem mz_204 : Cond.methodLink RX10 184 Lib.Math.max.name ∈ lw_tbl := lw_t3 _ (List.mem_of_getElem? (i := 80) rfl)
set_option maxRecDepth 100000 in
theorem mz_205 : Cond.static Lib.Math.max.name ∈ lw_tbl := lw_t3 _ (List.mem_of_getElem? (i := 81) rfl)
set_option maxRecDepth 100000 in
theorem mz_206 : Cond.initialized "java/lang/Math" ∈ lw_tbl := lw_t1 _ (List.mem_of_getElem? (i := 20) rfl)
set_option maxRecDepth 100000 in
theorem mz_207 : Cond.code Lib.Math.max.name Lib.Math.max.code 2 (some .int) ∈ lw_tbl := lw_t3 _ (List.mem_of_getElem? (i := 82) rfl)
set_option maxRecDepth 100000 in
theorem mz_208 : Cond.fieldLink RX10 189 "LadleKings$State" "spoons" "[I" ∈ lw_tbl := lw_t1 _ (List.mem_of_getElem? (i := 93) rfl)
set_option maxRecDepth 100000 in
theorem mz_209 : Cond.fieldLink RX10 191 "LadleKings$Rules" "need" "[I" ∈ lw_tbl := lw_t1 _ (List.mem_of_getElem? (i := 53) rfl)
set_option maxRecDepth 100000 in
theorem mz_210 : Cond.methodLink RX10 172 yX10_heed ∈ lw_tbl := lw_t3 _ (List.mem_of_getElem? (i := 76) rfl)
set_option maxRecDepth 100000 in
theorem mz_211 : Cond.instanceMethod yX10_heed ∈ lw_tbl := lw_t3 _ (List.mem_of_getElem? (i := 78) rfl)
theorem mz_212 : Cond.selects RX10 yX10_heed yX10_heed ∈ lw_tbl := List.mem_of_getElem? (i := 8) (by decide +kernel)
set_option maxRecDepth 100000 in
theorem mz_213 : Cond.code yX10_heed cX10_heed 2 none ∈ lw_tbl := lw_t3 _ (List.mem_of_getElem? (i := 79) rfl)
set_option maxRecDepth 100000 in
theorem mz_214 : Cond.methodLink RX10 180 yX8_setFriend ∈ lw_tbl := lw_t3 _ (List.mem_of_getElem? (i := 83) rfl)
set_option maxRecDepth 100000 in
theorem mz_215 : Cond.instanceMethod yX8_setFriend ∈ lw_tbl := lw_t3 _ (List.mem_of_getElem? (i := 84) rfl)
set_option maxRecDepth 100000 in
theorem mz_216 : Cond.selects RX8 yX8_setFriend yX8_setFriend ∈ lw_tbl := lw_t3 _ (List.mem_of_getElem? (i := 85) rfl)
set_option maxRecDepth 100000 in
theorem mz_217 : Cond.code yX8_setFriend cX8_setFriend 4 none ∈ lw_tbl := lw_t3 _ (List.mem_of_getElem? (i := 86) rfl)
set_option maxRecDepth 100000 in
theorem mz_218 : Cond.methodLink RX10 193 yX10_takeStir ∈ lw_tbl := lw_t3 _ (List.mem_of_getElem? (i := 87) rfl)
set_option maxRecDepth 100000 in
theorem mz_219 : Cond.instanceMethod yX10_takeStir ∈ lw_tbl := lw_t3 _ (List.mem_of_getElem? (i := 89) rfl)
theorem mz_220 : Cond.selects RX10 yX10_takeStir yX10_takeStir ∈ lw_tbl := List.mem_of_getElem? (i := 9) (by decide +kernel)
set_option maxRecDepth 100000 in
theorem mz_221 : Cond.code yX10_takeStir cX10_takeStir 4 none ∈ lw_tbl := lw_t3 _ (List.mem_of_getElem? (i := 90) rfl)
theorem hz_wsX11_text_r8 : ∀ w ∈ wsX11_text_r8, w ∈ lw_tbl := (List.forall_mem_cons.mpr ⟨mz_198, (List.forall_mem_cons.mpr ⟨mz_199, (List.forall_mem_cons.mpr ⟨mz_200, (List.forall_mem_cons.mpr ⟨mz_201, (List.forall_mem_cons.mpr ⟨mz_202, (List.forall_mem_cons.mpr ⟨mz_203, (List.forall_mem_cons.mpr ⟨mz_204, (List.forall_mem_cons.mpr ⟨mz_205, (List.forall_mem_cons.mpr ⟨mz_206, (List.forall_mem_cons.mpr ⟨mz_207, (List.forall_mem_cons.mpr ⟨mz_208, (List.forall_mem_cons.mpr ⟨mz_209, (List.forall_mem_cons.mpr ⟨mz_210, (List.forall_mem_cons.mpr ⟨mz_211, (List.forall_mem_cons.mpr ⟨mz_212, (List.forall_mem_cons.mpr ⟨mz_213, (List.forall_mem_cons.mpr ⟨mz_214, (List.forall_mem_cons.mpr ⟨mz_215, (List.forall_mem_cons.mpr ⟨mz_216, (List.forall_mem_cons.mpr ⟨mz_217, (List.forall_mem_cons.mpr ⟨mz_218, (List.forall_mem_cons.mpr ⟨mz_219, (List.forall_mem_cons.mpr ⟨mz_220, (List.forall_mem_cons.mpr ⟨mz_221, (fun _ h => absurd h List.not_mem_nil)⟩)⟩)⟩)⟩)⟩)⟩)⟩)⟩)⟩)⟩)⟩)⟩)⟩)⟩)⟩)⟩)⟩)⟩)⟩)⟩)⟩)⟩)⟩)⟩)
set_option maxRecDepth 100000 in
theorem mz_222 : Cond.methodLink RX10 197 yX6_addStir ∈ lw_tbl := lw_t3 _ (List.mem_of_getElem? (i := 91) rfl)
set_option maxRecDepth 100000 in
theorem mz_223 : Cond.instanceMethod yX6_addStir ∈ lw_tbl := lw_t3 _ (List.mem_of_getElem? (i := 92) rfl)
set_option maxRecDepth 100000 in
theorem mz_224 : Cond.selects RX6 yX6_addStir yX6_addStir ∈ lw_tbl := lw_t3 _ (List.mem_of_getElem? (i := 93) rfl)
set_option maxRecDepth 100000 in
theorem mz_225 : Cond.code yX6_addStir cX6_addStir 4 none ∈ lw_tbl := lw_t3 _ (List.mem_of_getElem? (i := 94) rfl)
set_option maxRecDepth 100000 in
theorem mz_226 : Cond.fieldLink RX6 22 "LadleKings$Rules" "kind" "[I" ∈ lw_tbl := lw_t1 _ (List.mem_of_getElem? (i := 54) rfl)
set_option maxRecDepth 100000 in
theorem mz_227 : Cond.fieldLink RX6 25 "LadleKings$Rules" "first" "[I" ∈ lw_tbl := lw_t1 _ (List.mem_of_getElem? (i := 55) rfl)
set_option maxRecDepth 100000 in
theorem mz_228 : Cond.fieldLink RX6 28 "LadleKings$Rules" "second" "[I" ∈ lw_tbl := lw_t1 _ (List.mem_of_getElem? (i := 56) rfl)
set_option maxRecDepth 100000 in
theorem mz_229 : Cond.methodLink RX10 105 yX10_faultOfNumber ∈ lw_tbl := lw_t3 _ (List.mem_of_getElem? (i := 95) rfl)
set_option maxRecDepth 100000 in
theorem mz_230 : Cond.instanceMethod yX10_faultOfNumber ∈ lw_tbl := lw_t3 _ (List.mem_of_getElem? (i := 97) rfl)
theorem mz_231 : Cond.selects RX10 yX10_faultOfNumber yX10_faultOfNumber ∈ lw_tbl := List.mem_of_getElem? (i := 10) (by decide +kernel)
set_option maxRecDepth 100000 in
theorem mz_232 : Cond.code yX10_faultOfNumber cX10_faultOfNumber 6 (some .int) ∈ lw_tbl := lw_t3 _ (List.mem_of_getElem? (i := 98) rfl)
set_option maxRecDepth 100000 in
theorem mz_233 : Cond.fieldLink RX10 144 "LadleKings$TextReader" "FIRST_LOW" "[I" ∈ lw_tbl := lw_t3 _ (List.mem_of_getElem? (i := 99) rfl)
set_option maxRecDepth 100000 in
theorem mz_234 : Cond.fieldLink RX10 147 "LadleKings$TextReader" "LATER_LOW" "[I" ∈ lw_tbl := lw_t3 _ (List.mem_of_getElem? (i := 101) rfl)
set_option maxRecDepth 100000 in
theorem mz_235 : Cond.fieldLink RX10 150 "LadleKings$TextReader" "FIRST_HIGH" "[I" ∈ lw_tbl := lw_t3 _ (List.mem_of_getElem? (i := 103) rfl)
set_option maxRecDepth 100000 in
theorem mz_236 : Cond.fieldLink RX10 153 "LadleKings$TextReader" "LATER_HIGH" "[I" ∈ lw_tbl := lw_t3 _ (List.mem_of_getElem? (i := 105) rfl)
set_option maxRecDepth 100000 in
theorem mz_237 : Cond.methodLink RX10 156 yX10_isAgain ∈ lw_tbl := lw_t3 _ (List.mem_of_getElem? (i := 107) rfl)
set_option maxRecDepth 100000 in
theorem mz_238 : Cond.instanceMethod yX10_isAgain ∈ lw_tbl := lw_t3 _ (List.mem_of_getElem? (i := 109) rfl)
theorem mz_239 : Cond.selects RX10 yX10_isAgain yX10_isAgain ∈ lw_tbl := List.mem_of_getElem? (i := 11) (by decide +kernel)
set_option maxRecDepth 100000 in
theorem mz_240 : Cond.code yX10_isAgain cX10_isAgain 3 (some .boolean) ∈ lw_tbl := lw_t3 _ (List.mem_of_getElem? (i := 110) rfl)
set_option maxRecDepth 100000 in
theorem mz_241 : Cond.methodLink RX10 160 yX8_isFriend ∈ lw_tbl := lw_t3 _ (List.mem_of_getElem? (i := 111) rfl)
set_option maxRecDepth 100000 in
theorem mz_242 : Cond.instanceMethod yX8_isFriend ∈ lw_tbl := lw_t3 _ (List.mem_of_getElem? (i := 112) rfl)
set_option maxRecDepth 100000 in
theorem mz_243 : Cond.selects RX8 yX8_isFriend yX8_isFriend ∈ lw_tbl := lw_t3 _ (List.mem_of_getElem? (i := 113) rfl)
set_option maxRecDepth 100000 in
theorem mz_244 : Cond.code yX8_isFriend cX8_isFriend 3 (some .boolean) ∈ lw_tbl := lw_t3 _ (List.mem_of_getElem? (i := 114) rfl)
set_option maxRecDepth 100000 in
theorem mz_245 : Cond.methodLink RX10 68 yX6_workOutStirs ∈ lw_tbl := lw_t3 _ (List.mem_of_getElem? (i := 115) rfl)
theorem hz_wsX11_text_r9 : ∀ w ∈ wsX11_text_r9, w ∈ lw_tbl := (List.forall_mem_cons.mpr ⟨mz_222, (List.forall_mem_cons.mpr ⟨mz_223, (List.forall_mem_cons.mpr ⟨mz_224, (List.forall_mem_cons.mpr ⟨mz_225, (List.forall_mem_cons.mpr ⟨mz_226, (List.forall_mem_cons.mpr ⟨mz_227, (List.forall_mem_cons.mpr ⟨mz_228, (List.forall_mem_cons.mpr ⟨mz_229, (List.forall_mem_cons.mpr ⟨mz_230, (List.forall_mem_cons.mpr ⟨mz_231, (List.forall_mem_cons.mpr ⟨mz_232, (List.forall_mem_cons.mpr ⟨mz_233, (List.forall_mem_cons.mpr ⟨mz_234, (List.forall_mem_cons.mpr ⟨mz_235, (List.forall_mem_cons.mpr ⟨mz_236, (List.forall_mem_cons.mpr ⟨mz_237, (List.forall_mem_cons.mpr ⟨mz_238, (List.forall_mem_cons.mpr ⟨mz_239, (List.forall_mem_cons.mpr ⟨mz_240, (List.forall_mem_cons.mpr ⟨mz_241, (List.forall_mem_cons.mpr ⟨mz_242, (List.forall_mem_cons.mpr ⟨mz_243, (List.forall_mem_cons.mpr ⟨mz_244, (List.forall_mem_cons.mpr ⟨mz_245, (fun _ h => absurd h List.not_mem_nil)⟩)⟩)⟩)⟩)⟩)⟩)⟩)⟩)⟩)⟩)⟩)⟩)⟩)⟩)⟩)⟩)⟩)⟩)⟩)⟩)⟩)⟩)⟩)⟩)
set_option maxRecDepth 100000 in
theorem mz_246 : Cond.instanceMethod yX6_workOutStirs ∈ lw_tbl := lw_t3 _ (List.mem_of_getElem? (i := 116) rfl)
set_option maxRecDepth 100000 in
theorem mz_247 : Cond.selects RX6 yX6_workOutStirs yX6_workOutStirs ∈ lw_tbl := lw_t3 _ (List.mem_of_getElem? (i := 117) rfl)
set_option maxRecDepth 100000 in
theorem mz_248 : Cond.code yX6_workOutStirs cX6_workOutStirs 3 none ∈ lw_tbl := lw_t3 _ (List.mem_of_getElem? (i := 118) rfl)
set_option maxRecDepth 100000 in
theorem mz_249 : Cond.fieldLink RX6 31 "LadleKings$Rules" "after" "[I" ∈ lw_tbl := lw_t1 _ (List.mem_of_getElem? (i := 57) rfl)
set_option maxRecDepth 100000 in
theorem mz_250 : Cond.methodLink RX6 46 yX6_workOut ∈ lw_tbl := lw_t3 _ (List.mem_of_getElem? (i := 119) rfl)
set_option maxRecDepth 100000 in
theorem mz_251 : Cond.instanceMethod yX6_workOut ∈ lw_tbl := lw_t3 _ (List.mem_of_getElem? (i := 121) rfl)
theorem mz_252 : Cond.selects RX6 yX6_workOut yX6_workOut ∈ lw_tbl := List.mem_of_getElem? (i := 12) (by decide +kernel)
set_option maxRecDepth 100000 in
theorem mz_253 : Cond.code yX6_workOut cX6_workOut 3 (some .int) ∈ lw_tbl := lw_t3 _ (List.mem_of_getElem? (i := 122) rfl)
set_option maxRecDepth 100000 in
theorem mz_254 : Cond.methodLink RX6 50 yX6_inRing ∈ lw_tbl := lw_t3 _ (List.mem_of_getElem? (i := 123) rfl)
set_option maxRecDepth 100000 in
theorem mz_255 : Cond.instanceMethod yX6_inRing ∈ lw_tbl := lw_t3 _ (List.mem_of_getElem? (i := 124) rfl)
set_option maxRecDepth 100000 in
theorem mz_256 : Cond.selects RX6 yX6_inRing yX6_inRing ∈ lw_tbl := lw_t3 _ (List.mem_of_getElem? (i := 125) rfl)
set_option maxRecDepth 100000 in
theorem mz_257 : Cond.code yX6_inRing cX6_inRing 4 (some .int) ∈ lw_tbl := lw_t3 _ (List.mem_of_getElem? (i := 126) rfl)
set_option maxRecDepth 100000 in
theorem mz_258 : Cond.methodLink RX6 54 yX6_swapped ∈ lw_tbl := lw_t3 _ (List.mem_of_getElem? (i := 127) rfl)
set_option maxRecDepth 100000 in
theorem mz_259 : Cond.static yX6_swapped ∈ lw_tbl := lw_t3 _ (List.mem_of_getElem? (i := 128) rfl)
set_option maxRecDepth 100000 in
theorem mz_260 : Cond.code yX6_swapped cX6_swapped 3 (some .int) ∈ lw_tbl := lw_t3 _ (List.mem_of_getElem? (i := 129) rfl)
set_option maxRecDepth 100000 in
theorem mz_261 : Cond.methodLink RX6 58 yX6_lifted ∈ lw_tbl := lw_t3 _ (List.mem_of_getElem? (i := 130) rfl)
set_option maxRecDepth 100000 in
theorem mz_262 : Cond.static yX6_lifted ∈ lw_tbl := lw_t3 _ (List.mem_of_getElem? (i := 131) rfl)
set_option maxRecDepth 100000 in
theorem mz_263 : Cond.code yX6_lifted cX6_lifted 2 (some .int) ∈ lw_tbl := lw_t3 _ (List.mem_of_getElem? (i := 132) rfl)
set_option maxRecDepth 100000 in
theorem mz_264 : Cond.methodLink RX11 122 yX6_copy ∈ lw_tbl := lw_t3 _ (List.mem_of_getElem? (i := 133) rfl)
set_option maxRecDepth 100000 in
theorem mz_265 : Cond.instanceMethod yX6_copy ∈ lw_tbl := lw_t3 _ (List.mem_of_getElem? (i := 134) rfl)
set_option maxRecDepth 100000 in
theorem mz_266 : Cond.selects RX6 yX6_copy yX6_copy ∈ lw_tbl := lw_t3 _ (List.mem_of_getElem? (i := 135) rfl)
set_option maxRecDepth 100000 in
theorem mz_267 : Cond.code yX6_copy cX6_copy 2 none ∈ lw_tbl := lw_t3 _ (List.mem_of_getElem? (i := 136) rfl)
set_option maxRecDepth 100000 in
theorem mz_268 : Cond.methodLink RX6 40 arraycopyName ∈ lw_tbl := lw_t3 _ (List.mem_of_getElem? (i := 137) rfl)
set_option maxRecDepth 100000 in
theorem mz_269 : Cond.methodLink RX11 127 yX8_copy ∈ lw_tbl := lw_t3 _ (List.mem_of_getElem? (i := 138) rfl)
theorem hz_wsX11_text_r10 : ∀ w ∈ wsX11_text_r10, w ∈ lw_tbl := (List.forall_mem_cons.mpr ⟨mz_246, (List.forall_mem_cons.mpr ⟨mz_247, (List.forall_mem_cons.mpr ⟨mz_248, (List.forall_mem_cons.mpr ⟨mz_249, (List.forall_mem_cons.mpr ⟨mz_250, (List.forall_mem_cons.mpr ⟨mz_251, (List.forall_mem_cons.mpr ⟨mz_252, (List.forall_mem_cons.mpr ⟨mz_253, (List.forall_mem_cons.mpr ⟨mz_254, (List.forall_mem_cons.mpr ⟨mz_255, (List.forall_mem_cons.mpr ⟨mz_256, (List.forall_mem_cons.mpr ⟨mz_257, (List.forall_mem_cons.mpr ⟨mz_258, (List.forall_mem_cons.mpr ⟨mz_259, (List.forall_mem_cons.mpr ⟨mz_260, (List.forall_mem_cons.mpr ⟨mz_261, (List.forall_mem_cons.mpr ⟨mz_262, (List.forall_mem_cons.mpr ⟨mz_263, (List.forall_mem_cons.mpr ⟨mz_264, (List.forall_mem_cons.mpr ⟨mz_265, (List.forall_mem_cons.mpr ⟨mz_266, (List.forall_mem_cons.mpr ⟨mz_267, (List.forall_mem_cons.mpr ⟨mz_268, (List.forall_mem_cons.mpr ⟨mz_269, (fun _ h => absurd h List.not_mem_nil)⟩)⟩)⟩)⟩)⟩)⟩)⟩)⟩)⟩)⟩)⟩)⟩)⟩)⟩)⟩)⟩)⟩)⟩)⟩)⟩)⟩)⟩)⟩)⟩)
set_option maxRecDepth 100000 in
theorem mz_270 : Cond.instanceMethod yX8_copy ∈ lw_tbl := lw_t3 _ (List.mem_of_getElem? (i := 139) rfl)
set_option maxRecDepth 100000 in
theorem mz_271 : Cond.selects RX8 yX8_copy yX8_copy ∈ lw_tbl := lw_t3 _ (List.mem_of_getElem? (i := 140) rfl)
set_option maxRecDepth 100000 in
theorem mz_272 : Cond.code yX8_copy cX8_copy 2 none ∈ lw_tbl := lw_t3 _ (List.mem_of_getElem? (i := 141) rfl)
set_option maxRecDepth 100000 in
theorem mz_273 : Cond.methodLink RX8 46 arraycopyName ∈ lw_tbl := lw_t3 _ (List.mem_of_getElem? (i := 142) rfl)
set_option maxRecDepth 100000 in
theorem mz_274 : Cond.fieldLink RX8 24 "LadleKings$State" "seen" "[I" ∈ lw_tbl := lw_t1 _ (List.mem_of_getElem? (i := 97) rfl)
theorem hz_wsX11_text_r11 : ∀ w ∈ wsX11_text_r11, w ∈ lw_tbl := (List.forall_mem_cons.mpr ⟨mz_270, (List.forall_mem_cons.mpr ⟨mz_271, (List.forall_mem_cons.mpr ⟨mz_272, (List.forall_mem_cons.mpr ⟨mz_273, (List.forall_mem_cons.mpr ⟨mz_274, (fun _ h => absurd h List.not_mem_nil)⟩)⟩)⟩)⟩)⟩)
set_option maxRecDepth 100000 in
theorem hz_wsX100 : ∀ w ∈ wsX100, w ∈ lw_tbl := fun w h => (goodIn_r (big := lw_tbl) wsX100 [268, 270, 272, 274, 276, 278, 280, 282, 284] rfl (by decide +kernel) w h).1
set_option maxRecDepth 100000 in
theorem hz_wsX60 : ∀ w ∈ wsX60, w ∈ lw_tbl := fun w h => (goodIn_r (big := lw_tbl) wsX60 [132, 134, 136, 138, 140, 142, 144] rfl (by decide +kernel) w h).1
set_option maxRecDepth 100000 in
theorem hz_wsX80 : ∀ w ∈ wsX80, w ∈ lw_tbl := fun w h => (goodIn_r (big := lw_tbl) wsX80 [196, 198, 200, 202, 204, 206, 208, 210, 212] rfl (by decide +kernel) w h).1
theorem hz_wsX11_text : ∀ w ∈ wsX11_text, w ∈ lw_tbl := (List.forall_mem_cons.mpr ⟨mz_34, (List.forall_mem_append.mpr ⟨(List.forall_mem_append.mpr ⟨(List.forall_mem_append.mpr ⟨(List.forall_mem_append.mpr ⟨(List.forall_mem_append.mpr ⟨(List.forall_mem_append.mpr ⟨hz_wsX11_text_r1, (List.forall_mem_append.mpr ⟨hz_wsX11_text_r2, (List.forall_mem_append.mpr ⟨hz_wsX11_text_r3, (List.forall_mem_append.mpr ⟨hz_wsX11_text_r4, (List.forall_mem_append.mpr ⟨hz_wsX11_text_r5, (List.forall_mem_append.mpr ⟨hz_wsX11_text_r6, (List.forall_mem_append.mpr ⟨hz_wsX11_text_r7, (List.forall_mem_append.mpr ⟨hz_wsX11_text_r8, (List.forall_mem_append.mpr ⟨hz_wsX11_text_r9, (List.forall_mem_append.mpr ⟨hz_wsX11_text_r10, hz_wsX11_text_r11⟩)⟩)⟩)⟩)⟩)⟩)⟩)⟩)⟩)⟩), hz_wsX110⟩), hz_wsX90⟩), hz_wsX100⟩), hz_wsX60⟩), hz_wsX80⟩)⟩)
set_option maxRecDepth 100000 in
theorem mz_275 : Cond.methodLink RL 25 yX11_text ∈ lw_tbl := lw_t2 _ (List.mem_of_getElem? (i := 180) rfl)
set_option maxRecDepth 100000 in
theorem mz_276 : Cond.instanceMethod yX11_text ∈ lw_tbl := lw_t2 _ (List.mem_of_getElem? (i := 181) rfl)
set_option maxRecDepth 100000 in
theorem mz_277 : Cond.selects RX11 yX11_text yX11_text ∈ lw_tbl := lw_t2 _ (List.mem_of_getElem? (i := 182) rfl)
set_option maxRecDepth 100000 in
theorem mz_278 : Cond.code yX12_text cX12_text 2 (some .int) ∈ lw_tbl := lw_t5 _ (List.mem_of_getElem? (i := 203) rfl)
set_option maxRecDepth 100000 in
theorem mz_279 : Cond.fieldLink RX12 119 "LadleKingsModel" "fault" "I" ∈ lw_tbl := lw_t5 _ (List.mem_of_getElem? (i := 95) rfl)
set_option maxRecDepth 100000 in
theorem mz_280 : Cond.fieldLink RX12 128 "LadleKingsModel" "pos" "I" ∈ lw_tbl := lw_t5 _ (List.mem_of_getElem? (i := 91) rfl)
set_option maxRecDepth 100000 in
theorem mz_281 : Cond.fieldLink RX12 147 "LadleKingsModel" "sort" "I" ∈ lw_tbl := lw_t5 _ (List.mem_of_getElem? (i := 93) rfl)
set_option maxRecDepth 100000 in
theorem mz_282 : Cond.fieldLink RX12 97 "LadleKingsModel" "highest" "I" ∈ lw_tbl := lw_t5 _ (List.mem_of_getElem? (i := 88) rfl)
set_option maxRecDepth 100000 in
theorem mz_283 : Cond.fieldLink RX12 87 "LadleKingsModel" "dSeats" "I" ∈ lw_tbl := lw_t5 _ (List.mem_of_getElem? (i := 83) rfl)
set_option maxRecDepth 100000 in
theorem mz_284 : Cond.fieldLink RX12 125 "LadleKingsModel" "wrongAt" "I" ∈ lw_tbl := lw_t5 _ (List.mem_of_getElem? (i := 96) rfl)
set_option maxRecDepth 100000 in
theorem mz_285 : Cond.methodLink RX12 81 yX12_firstDraft ∈ lw_tbl := lw_t5 _ (List.mem_of_getElem? (i := 64) rfl)
set_option maxRecDepth 100000 in
theorem mz_286 : Cond.instanceMethod yX12_firstDraft ∈ lw_tbl := lw_t5 _ (List.mem_of_getElem? (i := 66) rfl)
theorem mz_287 : Cond.selects RX12 yX12_firstDraft yX12_firstDraft ∈ lw_tbl := List.mem_of_getElem? (i := 33) (by decide +kernel)
set_option maxRecDepth 100000 in
theorem mz_288 : Cond.code yX12_firstDraft cX12_firstDraft 2 none ∈ lw_tbl := lw_t5 _ (List.mem_of_getElem? (i := 67) rfl)
set_option maxRecDepth 100000 in
theorem mz_289 : Cond.fieldLink RX12 23 "LadleKingsModel" "draft" "[I" ∈ lw_tbl := lw_t5 _ (List.mem_of_getElem? (i := 82) rfl)
set_option maxRecDepth 100000 in
theorem mz_290 : Cond.fieldLink RX12 29 "LadleKingsModel" "dNeed" "[I" ∈ lw_tbl := lw_t5 _ (List.mem_of_getElem? (i := 86) rfl)
set_option maxRecDepth 100000 in
theorem mz_291 : Cond.fieldLink RX12 91 "LadleKingsModel" "dStirs" "I" ∈ lw_tbl := lw_t5 _ (List.mem_of_getElem? (i := 84) rfl)
set_option maxRecDepth 100000 in
theorem mz_292 : Cond.fieldLink RX12 94 "LadleKingsModel" "told" "I" ∈ lw_tbl := lw_t5 _ (List.mem_of_getElem? (i := 87) rfl)
set_option maxRecDepth 100000 in
theorem mz_293 : Cond.methodLink RX12 168 yX12_nextToken ∈ lw_tbl := lw_t5 _ (List.mem_of_getElem? (i := 204) rfl)
set_option maxRecDepth 100000 in
theorem mz_294 : Cond.instanceMethod yX12_nextToken ∈ lw_tbl := lw_t5 _ (List.mem_of_getElem? (i := 206) rfl)
theorem mz_295 : Cond.selects RX12 yX12_nextToken yX12_nextToken ∈ lw_tbl := List.mem_of_getElem? (i := 36) (by decide +kernel)
set_option maxRecDepth 100000 in
theorem mz_296 : Cond.code yX12_nextToken cX12_nextToken 2 none ∈ lw_tbl := lw_t5 _ (List.mem_of_getElem? (i := 207) rfl)
set_option maxRecDepth 100000 in
theorem mz_297 : Cond.fieldLink RX12 122 "LadleKingsModel" "from" "I" ∈ lw_tbl := lw_t5 _ (List.mem_of_getElem? (i := 92) rfl)
set_option maxRecDepth 100000 in
theorem mz_298 : Cond.constantLong RX12 150 (97) ∈ lw_tbl := lw_t5 _ (List.mem_of_getElem? (i := 212) rfl)
set_option maxRecDepth 100000 in
theorem mz_299 : Cond.constantLong RX12 152 (122) ∈ lw_tbl := lw_t5 _ (List.mem_of_getElem? (i := 213) rfl)
set_option maxRecDepth 100000 in
theorem mz_300 : Cond.constantLong RX12 154 (48) ∈ lw_tbl := lw_t5 _ (List.mem_of_getElem? (i := 214) rfl)
theorem hz_wsX12_text_r1 : ∀ w ∈ wsX12_text_r1, w ∈ lw_tbl := (List.forall_mem_cons.mpr ⟨mz_279, (List.forall_mem_cons.mpr ⟨mz_280, (List.forall_mem_cons.mpr ⟨mz_281, (List.forall_mem_cons.mpr ⟨mz_282, (List.forall_mem_cons.mpr ⟨mz_283, (List.forall_mem_cons.mpr ⟨mz_16, (List.forall_mem_cons.mpr ⟨mz_284, (List.forall_mem_cons.mpr ⟨mz_285, (List.forall_mem_cons.mpr ⟨mz_286, (List.forall_mem_cons.mpr ⟨mz_287, (List.forall_mem_cons.mpr ⟨mz_22, (List.forall_mem_cons.mpr ⟨mz_288, (List.forall_mem_cons.mpr ⟨mz_289, (List.forall_mem_cons.mpr ⟨mz_290, (List.forall_mem_cons.mpr ⟨mz_291, (List.forall_mem_cons.mpr ⟨mz_292, (List.forall_mem_cons.mpr ⟨mz_293, (List.forall_mem_cons.mpr ⟨mz_294, (List.forall_mem_cons.mpr ⟨mz_295, (List.forall_mem_cons.mpr ⟨mz_296, (List.forall_mem_cons.mpr ⟨mz_297, (List.forall_mem_cons.mpr ⟨mz_298, (List.forall_mem_cons.mpr ⟨mz_299, (List.forall_mem_cons.mpr ⟨mz_300, (fun _ h => absurd h List.not_mem_nil)⟩)⟩)⟩)⟩)⟩)⟩)⟩)⟩)⟩)⟩)⟩)⟩)⟩)⟩)⟩)⟩)⟩)⟩)⟩)⟩)⟩)⟩)⟩)⟩)
set_option maxRecDepth 100000 in
theorem mz_301 : Cond.constantLong RX12 156 (57) ∈ lw_tbl := lw_t5 _ (List.mem_of_getElem? (i := 215) rfl)
set_option maxRecDepth 100000 in
theorem mz_302 : Cond.fieldLink RX12 158 "LadleKingsModel" "value" "I" ∈ lw_tbl := lw_t5 _ (List.mem_of_getElem? (i := 94) rfl)
set_option maxRecDepth 100000 in
theorem mz_303 : Cond.methodLink RX12 131 yX12_look ∈ lw_tbl := lw_t5 _ (List.mem_of_getElem? (i := 208) rfl)
set_option maxRecDepth 100000 in
theorem mz_304 : Cond.instanceMethod yX12_look ∈ lw_tbl := lw_t5 _ (List.mem_of_getElem? (i := 210) rfl)
theorem mz_305 : Cond.selects RX12 yX12_look yX12_look ∈ lw_tbl := List.mem_of_getElem? (i := 37) (by decide +kernel)
set_option maxRecDepth 100000 in
theorem mz_306 : Cond.code yX12_look cX12_look 2 (some .int) ∈ lw_tbl := lw_t5 _ (List.mem_of_getElem? (i := 211) rfl)
set_option maxRecDepth 100000 in
theorem mz_307 : Cond.methodLink RX12 161 yX12_needs ∈ lw_tbl := lw_t5 _ (List.mem_of_getElem? (i := 216) rfl)
set_option maxRecDepth 100000 in
theorem mz_308 : Cond.instanceMethod yX12_needs ∈ lw_tbl := lw_t5 _ (List.mem_of_getElem? (i := 218) rfl)
theorem mz_309 : Cond.selects RX12 yX12_needs yX12_needs ∈ lw_tbl := List.mem_of_getElem? (i := 38) (by decide +kernel)
set_option maxRecDepth 100000 in
theorem mz_310 : Cond.code yX12_needs cX12_needs 3 none ∈ lw_tbl := lw_t5 _ (List.mem_of_getElem? (i := 219) rfl)
set_option maxRecDepth 100000 in
theorem mz_311 : Cond.methodLink RX12 200 yX12_readLine ∈ lw_tbl := lw_t5 _ (List.mem_of_getElem? (i := 220) rfl)
set_option maxRecDepth 100000 in
theorem mz_312 : Cond.instanceMethod yX12_readLine ∈ lw_tbl := lw_t5 _ (List.mem_of_getElem? (i := 222) rfl)
theorem mz_313 : Cond.selects RX12 yX12_readLine yX12_readLine ∈ lw_tbl := List.mem_of_getElem? (i := 39) (by decide +kernel)
set_option maxRecDepth 100000 in
theorem mz_314 : Cond.code yX12_readLine cX12_readLine 2 none ∈ lw_tbl := lw_t5 _ (List.mem_of_getElem? (i := 223) rfl)
set_option maxRecDepth 100000 in
theorem mz_315 : Cond.constantLong RX12 193 (4) ∈ lw_tbl := lw_t6 _ (List.mem_of_getElem? (i := 0) rfl)
set_option maxRecDepth 100000 in
theorem mz_316 : Cond.constantLong RX12 195 (7) ∈ lw_tbl := lw_t6 _ (List.mem_of_getElem? (i := 1) rfl)
set_option maxRecDepth 100000 in
theorem mz_317 : Cond.methodLink RX12 190 yX12_lineNow ∈ lw_tbl := lw_t5 _ (List.mem_of_getElem? (i := 224) rfl)
set_option maxRecDepth 100000 in
theorem mz_318 : Cond.instanceMethod yX12_lineNow ∈ lw_tbl := lw_t5 _ (List.mem_of_getElem? (i := 226) rfl)
theorem mz_319 : Cond.selects RX12 yX12_lineNow yX12_lineNow ∈ lw_tbl := List.mem_of_getElem? (i := 40) (by decide +kernel)
set_option maxRecDepth 100000 in
theorem mz_320 : Cond.code yX12_lineNow cX12_lineNow 1 (some .int) ∈ lw_tbl := lw_t5 _ (List.mem_of_getElem? (i := 227) rfl)
theorem hz_wsX12_text_r2 : ∀ w ∈ wsX12_text_r2, w ∈ lw_tbl := (List.forall_mem_cons.mpr ⟨mz_301, (List.forall_mem_cons.mpr ⟨mz_302, (List.forall_mem_cons.mpr ⟨mz_303, (List.forall_mem_cons.mpr ⟨mz_304, (List.forall_mem_cons.mpr ⟨mz_305, (List.forall_mem_cons.mpr ⟨mz_306, (List.forall_mem_cons.mpr ⟨mz_17, (List.forall_mem_cons.mpr ⟨mz_28, (List.forall_mem_cons.mpr ⟨mz_29, (List.forall_mem_cons.mpr ⟨mz_30, (List.forall_mem_cons.mpr ⟨mz_307, (List.forall_mem_cons.mpr ⟨mz_308, (List.forall_mem_cons.mpr ⟨mz_309, (List.forall_mem_cons.mpr ⟨mz_310, (List.forall_mem_cons.mpr ⟨mz_311, (List.forall_mem_cons.mpr ⟨mz_312, (List.forall_mem_cons.mpr ⟨mz_313, (List.forall_mem_cons.mpr ⟨mz_314, (List.forall_mem_cons.mpr ⟨mz_315, (List.forall_mem_cons.mpr ⟨mz_316, (List.forall_mem_cons.mpr ⟨mz_317, (List.forall_mem_cons.mpr ⟨mz_318, (List.forall_mem_cons.mpr ⟨mz_319, (List.forall_mem_cons.mpr ⟨mz_320, (fun _ h => absurd h List.not_mem_nil)⟩)⟩)⟩)⟩)⟩)⟩)⟩)⟩)⟩)⟩)⟩)⟩)⟩)⟩)⟩)⟩)⟩)⟩)⟩)⟩)⟩)⟩)⟩)⟩)
set_option maxRecDepth 100000 in
theorem mz_321 : Cond.methodLink RX12 135 yX12_is ∈ lw_tbl := lw_t5 _ (List.mem_of_getElem? (i := 228) rfl)
set_option maxRecDepth 100000 in
theorem mz_322 : Cond.instanceMethod yX12_is ∈ lw_tbl := lw_t5 _ (List.mem_of_getElem? (i := 230) rfl)
theorem mz_323 : Cond.selects RX12 yX12_is yX12_is ∈ lw_tbl := List.mem_of_getElem? (i := 41) (by decide +kernel)
set_option maxRecDepth 100000 in
theorem mz_324 : Cond.code yX12_is cX12_is 5 (some .boolean) ∈ lw_tbl := lw_t5 _ (List.mem_of_getElem? (i := 231) rfl)
set_option maxRecDepth 100000 in
theorem mz_325 : Cond.methodLink RX12 139 yX12_ends ∈ lw_tbl := lw_t5 _ (List.mem_of_getElem? (i := 232) rfl)
set_option maxRecDepth 100000 in
theorem mz_326 : Cond.instanceMethod yX12_ends ∈ lw_tbl := lw_t5 _ (List.mem_of_getElem? (i := 234) rfl)
theorem mz_327 : Cond.selects RX12 yX12_ends yX12_ends ∈ lw_tbl := List.mem_of_getElem? (i := 42) (by decide +kernel)
set_option maxRecDepth 100000 in
theorem mz_328 : Cond.code yX12_ends cX12_ends 4 (some .boolean) ∈ lw_tbl := lw_t5 _ (List.mem_of_getElem? (i := 235) rfl)
set_option maxRecDepth 100000 in
theorem mz_329 : Cond.methodLink RX12 143 yX12_stirNow ∈ lw_tbl := lw_t5 _ (List.mem_of_getElem? (i := 236) rfl)
set_option maxRecDepth 100000 in
theorem mz_330 : Cond.instanceMethod yX12_stirNow ∈ lw_tbl := lw_t5 _ (List.mem_of_getElem? (i := 238) rfl)
theorem mz_331 : Cond.selects RX12 yX12_stirNow yX12_stirNow ∈ lw_tbl := List.mem_of_getElem? (i := 43) (by decide +kernel)
set_option maxRecDepth 100000 in
theorem mz_332 : Cond.code yX12_stirNow cX12_stirNow 1 (some .int) ∈ lw_tbl := lw_t5 _ (List.mem_of_getElem? (i := 239) rfl)
set_option maxRecDepth 100000 in
theorem mz_333 : Cond.methodLink RX12 197 yX12_readLineOf ∈ lw_tbl := lw_t6 _ (List.mem_of_getElem? (i := 2) rfl)
set_option maxRecDepth 100000 in
theorem mz_334 : Cond.instanceMethod yX12_readLineOf ∈ lw_tbl := lw_t6 _ (List.mem_of_getElem? (i := 4) rfl)
theorem mz_335 : Cond.selects RX12 yX12_readLineOf yX12_readLineOf ∈ lw_tbl := List.mem_of_getElem? (i := 44) (by decide +kernel)
set_option maxRecDepth 100000 in
theorem mz_336 : Cond.code yX12_readLineOf cX12_readLineOf 3 none ∈ lw_tbl := lw_t6 _ (List.mem_of_getElem? (i := 5) rfl)
set_option maxRecDepth 100000 in
theorem mz_337 : Cond.methodLink RX12 177 yX12_readNumber ∈ lw_tbl := lw_t6 _ (List.mem_of_getElem? (i := 6) rfl)
set_option maxRecDepth 100000 in
theorem mz_338 : Cond.instanceMethod yX12_readNumber ∈ lw_tbl := lw_t6 _ (List.mem_of_getElem? (i := 8) rfl)
theorem mz_339 : Cond.selects RX12 yX12_readNumber yX12_readNumber ∈ lw_tbl := List.mem_of_getElem? (i := 45) (by decide +kernel)
set_option maxRecDepth 100000 in
theorem mz_340 : Cond.code yX12_readNumber cX12_readNumber 4 (some .int) ∈ lw_tbl := lw_t6 _ (List.mem_of_getElem? (i := 9) rfl)
set_option maxRecDepth 100000 in
theorem mz_341 : Cond.methodLink RX12 165 yX12_looked ∈ lw_tbl := lw_t6 _ (List.mem_of_getElem? (i := 10) rfl)
set_option maxRecDepth 100000 in
theorem mz_342 : Cond.instanceMethod yX12_looked ∈ lw_tbl := lw_t6 _ (List.mem_of_getElem? (i := 12) rfl)
theorem mz_343 : Cond.selects RX12 yX12_looked yX12_looked ∈ lw_tbl := List.mem_of_getElem? (i := 46) (by decide +kernel)
set_option maxRecDepth 100000 in
theorem mz_344 : Cond.code yX12_looked cX12_looked 3 (some .int) ∈ lw_tbl := lw_t6 _ (List.mem_of_getElem? (i := 13) rfl)
theorem hz_wsX12_text_r3 : ∀ w ∈ wsX12_text_r3, w ∈ lw_tbl := (List.forall_mem_cons.mpr ⟨mz_321, (List.forall_mem_cons.mpr ⟨mz_322, (List.forall_mem_cons.mpr ⟨mz_323, (List.forall_mem_cons.mpr ⟨mz_324, (List.forall_mem_cons.mpr ⟨mz_325, (List.forall_mem_cons.mpr ⟨mz_326, (List.forall_mem_cons.mpr ⟨mz_327, (List.forall_mem_cons.mpr ⟨mz_328, (List.forall_mem_cons.mpr ⟨mz_329, (List.forall_mem_cons.mpr ⟨mz_330, (List.forall_mem_cons.mpr ⟨mz_331, (List.forall_mem_cons.mpr ⟨mz_332, (List.forall_mem_cons.mpr ⟨mz_333, (List.forall_mem_cons.mpr ⟨mz_334, (List.forall_mem_cons.mpr ⟨mz_335, (List.forall_mem_cons.mpr ⟨mz_336, (List.forall_mem_cons.mpr ⟨mz_337, (List.forall_mem_cons.mpr ⟨mz_338, (List.forall_mem_cons.mpr ⟨mz_339, (List.forall_mem_cons.mpr ⟨mz_340, (List.forall_mem_cons.mpr ⟨mz_341, (List.forall_mem_cons.mpr ⟨mz_342, (List.forall_mem_cons.mpr ⟨mz_343, (List.forall_mem_cons.mpr ⟨mz_344, (fun _ h => absurd h List.not_mem_nil)⟩)⟩)⟩)⟩)⟩)⟩)⟩)⟩)⟩)⟩)⟩)⟩)⟩)⟩)⟩)⟩)⟩)⟩)⟩)⟩)⟩)⟩)⟩)⟩)
set_option maxRecDepth 100000 in
theorem mz_345 : Cond.methodLink RX12 180 yX12_readPot ∈ lw_tbl := lw_t6 _ (List.mem_of_getElem? (i := 14) rfl)
set_option maxRecDepth 100000 in
theorem mz_346 : Cond.instanceMethod yX12_readPot ∈ lw_tbl := lw_t6 _ (List.mem_of_getElem? (i := 16) rfl)
theorem mz_347 : Cond.selects RX12 yX12_readPot yX12_readPot ∈ lw_tbl := List.mem_of_getElem? (i := 47) (by decide +kernel)
set_option maxRecDepth 100000 in
theorem mz_348 : Cond.code yX12_readPot cX12_readPot 4 none ∈ lw_tbl := lw_t6 _ (List.mem_of_getElem? (i := 17) rfl)
set_option maxRecDepth 100000 in
theorem mz_349 : Cond.methodLink RX12 174 yX12_readPlace ∈ lw_tbl := lw_t6 _ (List.mem_of_getElem? (i := 18) rfl)
set_option maxRecDepth 100000 in
theorem mz_350 : Cond.instanceMethod yX12_readPlace ∈ lw_tbl := lw_t6 _ (List.mem_of_getElem? (i := 20) rfl)
theorem mz_351 : Cond.selects RX12 yX12_readPlace yX12_readPlace ∈ lw_tbl := List.mem_of_getElem? (i := 48) (by decide +kernel)
set_option maxRecDepth 100000 in
theorem mz_352 : Cond.code yX12_readPlace cX12_readPlace 2 (some .int) ∈ lw_tbl := lw_t6 _ (List.mem_of_getElem? (i := 21) rfl)
set_option maxRecDepth 100000 in
theorem mz_353 : Cond.methodLink RX12 171 yX12_lookedPlace ∈ lw_tbl := lw_t6 _ (List.mem_of_getElem? (i := 22) rfl)
set_option maxRecDepth 100000 in
theorem mz_354 : Cond.instanceMethod yX12_lookedPlace ∈ lw_tbl := lw_t6 _ (List.mem_of_getElem? (i := 24) rfl)
theorem mz_355 : Cond.selects RX12 yX12_lookedPlace yX12_lookedPlace ∈ lw_tbl := List.mem_of_getElem? (i := 49) (by decide +kernel)
set_option maxRecDepth 100000 in
theorem mz_356 : Cond.code yX12_lookedPlace cX12_lookedPlace 2 (some .int) ∈ lw_tbl := lw_t6 _ (List.mem_of_getElem? (i := 25) rfl)
set_option maxRecDepth 100000 in
theorem mz_357 : Cond.methodLink RX12 183 yX12_readFriend ∈ lw_tbl := lw_t6 _ (List.mem_of_getElem? (i := 26) rfl)
set_option maxRecDepth 100000 in
theorem mz_358 : Cond.instanceMethod yX12_readFriend ∈ lw_tbl := lw_t6 _ (List.mem_of_getElem? (i := 28) rfl)
theorem mz_359 : Cond.selects RX12 yX12_readFriend yX12_readFriend ∈ lw_tbl := List.mem_of_getElem? (i := 50) (by decide +kernel)
set_option maxRecDepth 100000 in
theorem mz_360 : Cond.code yX12_readFriend cX12_readFriend 3 none ∈ lw_tbl := lw_t6 _ (List.mem_of_getElem? (i := 29) rfl)
set_option maxRecDepth 100000 in
theorem mz_361 : Cond.methodLink RX12 186 yX12_readStir ∈ lw_tbl := lw_t6 _ (List.mem_of_getElem? (i := 30) rfl)
set_option maxRecDepth 100000 in
theorem mz_362 : Cond.instanceMethod yX12_readStir ∈ lw_tbl := lw_t6 _ (List.mem_of_getElem? (i := 32) rfl)
theorem mz_363 : Cond.selects RX12 yX12_readStir yX12_readStir ∈ lw_tbl := List.mem_of_getElem? (i := 51) (by decide +kernel)
set_option maxRecDepth 100000 in
theorem mz_364 : Cond.code yX12_readStir cX12_readStir 4 none ∈ lw_tbl := lw_t6 _ (List.mem_of_getElem? (i := 33) rfl)
set_option maxRecDepth 100000 in
theorem mz_365 : Cond.fieldLink RX12 26 "LadleKingsModel" "dStir" "[I" ∈ lw_tbl := lw_t5 _ (List.mem_of_getElem? (i := 85) rfl)
set_option maxRecDepth 100000 in
theorem mz_366 : Cond.methodLink RX12 84 yX12_keepDraft ∈ lw_tbl := lw_t5 _ (List.mem_of_getElem? (i := 68) rfl)
set_option maxRecDepth 100000 in
theorem mz_367 : Cond.instanceMethod yX12_keepDraft ∈ lw_tbl := lw_t5 _ (List.mem_of_getElem? (i := 70) rfl)
theorem mz_368 : Cond.selects RX12 yX12_keepDraft yX12_keepDraft ∈ lw_tbl := List.mem_of_getElem? (i := 34) (by decide +kernel)
theorem hz_wsX12_text_r4 : ∀ w ∈ wsX12_text_r4, w ∈ lw_tbl := (List.forall_mem_cons.mpr ⟨mz_345, (List.forall_mem_cons.mpr ⟨mz_346, (List.forall_mem_cons.mpr ⟨mz_347, (List.forall_mem_cons.mpr ⟨mz_348, (List.forall_mem_cons.mpr ⟨mz_349, (List.forall_mem_cons.mpr ⟨mz_350, (List.forall_mem_cons.mpr ⟨mz_351, (List.forall_mem_cons.mpr ⟨mz_352, (List.forall_mem_cons.mpr ⟨mz_353, (List.forall_mem_cons.mpr ⟨mz_354, (List.forall_mem_cons.mpr ⟨mz_355, (List.forall_mem_cons.mpr ⟨mz_356, (List.forall_mem_cons.mpr ⟨mz_357, (List.forall_mem_cons.mpr ⟨mz_358, (List.forall_mem_cons.mpr ⟨mz_359, (List.forall_mem_cons.mpr ⟨mz_360, (List.forall_mem_cons.mpr ⟨mz_361, (List.forall_mem_cons.mpr ⟨mz_362, (List.forall_mem_cons.mpr ⟨mz_363, (List.forall_mem_cons.mpr ⟨mz_364, (List.forall_mem_cons.mpr ⟨mz_365, (List.forall_mem_cons.mpr ⟨mz_366, (List.forall_mem_cons.mpr ⟨mz_367, (List.forall_mem_cons.mpr ⟨mz_368, (fun _ h => absurd h List.not_mem_nil)⟩)⟩)⟩)⟩)⟩)⟩)⟩)⟩)⟩)⟩)⟩)⟩)⟩)⟩)⟩)⟩)⟩)⟩)⟩)⟩)⟩)⟩)⟩)⟩)
set_option maxRecDepth 100000 in
theorem mz_369 : Cond.code yX12_keepDraft cX12_keepDraft 3 none ∈ lw_tbl := lw_t5 _ (List.mem_of_getElem? (i := 71) rfl)
set_option maxRecDepth 100000 in
theorem mz_370 : Cond.fieldLink RX12 7 "LadleKingsModel" "st" "[I" ∈ lw_tbl := lw_t5 _ (List.mem_of_getElem? (i := 76) rfl)
set_option maxRecDepth 100000 in
theorem mz_371 : Cond.fieldLink RX12 100 "LadleKingsModel" "seats" "I" ∈ lw_tbl := lw_t5 _ (List.mem_of_getElem? (i := 78) rfl)
set_option maxRecDepth 100000 in
theorem mz_372 : Cond.fieldLink RX12 103 "LadleKingsModel" "stirs" "I" ∈ lw_tbl := lw_t5 _ (List.mem_of_getElem? (i := 79) rfl)
set_option maxRecDepth 100000 in
theorem mz_373 : Cond.fieldLink RX12 20 "LadleKingsModel" "need" "[I" ∈ lw_tbl := lw_t5 _ (List.mem_of_getElem? (i := 81) rfl)
set_option maxRecDepth 100000 in
theorem mz_374 : Cond.fieldLink RX12 17 "LadleKingsModel" "brings" "[I" ∈ lw_tbl := lw_t5 _ (List.mem_of_getElem? (i := 80) rfl)
set_option maxRecDepth 100000 in
theorem mz_375 : Cond.fieldLink RX12 13 "LadleKingsModel" "isKept" "[Z" ∈ lw_tbl := lw_t5 _ (List.mem_of_getElem? (i := 77) rfl)
set_option maxRecDepth 100000 in
theorem mz_376 : Cond.methodLink RX12 106 yX12_broughtTo ∈ lw_tbl := lw_t5 _ (List.mem_of_getElem? (i := 72) rfl)
set_option maxRecDepth 100000 in
theorem mz_377 : Cond.instanceMethod yX12_broughtTo ∈ lw_tbl := lw_t5 _ (List.mem_of_getElem? (i := 74) rfl)
theorem mz_378 : Cond.selects RX12 yX12_broughtTo yX12_broughtTo ∈ lw_tbl := List.mem_of_getElem? (i := 35) (by decide +kernel)
set_option maxRecDepth 100000 in
theorem mz_379 : Cond.code yX12_broughtTo cX12_broughtTo 5 (some .int) ∈ lw_tbl := lw_t5 _ (List.mem_of_getElem? (i := 75) rfl)
theorem hz_wsX12_text_r5 : ∀ w ∈ wsX12_text_r5, w ∈ lw_tbl := (List.forall_mem_cons.mpr ⟨mz_369, (List.forall_mem_cons.mpr ⟨mz_370, (List.forall_mem_cons.mpr ⟨mz_371, (List.forall_mem_cons.mpr ⟨mz_372, (List.forall_mem_cons.mpr ⟨mz_373, (List.forall_mem_cons.mpr ⟨mz_374, (List.forall_mem_cons.mpr ⟨mz_375, (List.forall_mem_cons.mpr ⟨mz_376, (List.forall_mem_cons.mpr ⟨mz_377, (List.forall_mem_cons.mpr ⟨mz_378, (List.forall_mem_cons.mpr ⟨mz_379, (fun _ h => absurd h List.not_mem_nil)⟩)⟩)⟩)⟩)⟩)⟩)⟩)⟩)⟩)⟩)⟩)
theorem hz_wsX12_text : ∀ w ∈ wsX12_text, w ∈ lw_tbl := (List.forall_mem_cons.mpr ⟨mz_278, (List.forall_mem_append.mpr ⟨(List.forall_mem_append.mpr ⟨hz_wsX12_text_r1, (List.forall_mem_append.mpr ⟨hz_wsX12_text_r2, (List.forall_mem_append.mpr ⟨hz_wsX12_text_r3, (List.forall_mem_append.mpr ⟨hz_wsX12_text_r4, hz_wsX12_text_r5⟩)⟩)⟩)⟩), hz_wsX120⟩)⟩)
set_option maxRecDepth 100000 in
theorem mz_380 : Cond.methodLink RL 29 yX12_text ∈ lw_tbl := lw_t5 _ (List.mem_of_getElem? (i := 200) rfl)
set_option maxRecDepth 100000 in
theorem mz_381 : Cond.instanceMethod yX12_text ∈ lw_tbl := lw_t5 _ (List.mem_of_getElem? (i := 201) rfl)
set_option maxRecDepth 100000 in
theorem mz_382 : Cond.selects RX12 yX12_text yX12_text ∈ lw_tbl := lw_t5 _ (List.mem_of_getElem? (i := 202) rfl)
set_option maxRecDepth 100000 in
theorem mz_383 : Cond.code yX11_fault cX11_fault 1 (some .int) ∈ lw_tbl := lw_t3 _ (List.mem_of_getElem? (i := 146) rfl)
theorem hz_wsX11_fault : ∀ w ∈ wsX11_fault, w ∈ lw_tbl := (List.forall_mem_cons.mpr ⟨mz_383, (List.forall_mem_append.mpr ⟨(List.forall_mem_cons.mpr ⟨mz_37, (fun _ h => absurd h List.not_mem_nil)⟩), hz_wsX110⟩)⟩)
set_option maxRecDepth 100000 in
theorem mz_384 : Cond.methodLink RL 30 yX11_fault ∈ lw_tbl := lw_t3 _ (List.mem_of_getElem? (i := 143) rfl)
set_option maxRecDepth 100000 in
theorem mz_385 : Cond.instanceMethod yX11_fault ∈ lw_tbl := lw_t3 _ (List.mem_of_getElem? (i := 144) rfl)
set_option maxRecDepth 100000 in
theorem mz_386 : Cond.selects RX11 yX11_fault yX11_fault ∈ lw_tbl := lw_t3 _ (List.mem_of_getElem? (i := 145) rfl)
set_option maxRecDepth 100000 in
theorem mz_387 : Cond.code yX12_fault cX12_fault 1 (some .int) ∈ lw_tbl := lw_t6 _ (List.mem_of_getElem? (i := 37) rfl)
theorem hz_wsX12_fault : ∀ w ∈ wsX12_fault, w ∈ lw_tbl := (List.forall_mem_cons.mpr ⟨mz_387, (List.forall_mem_append.mpr ⟨(List.forall_mem_cons.mpr ⟨mz_279, (fun _ h => absurd h List.not_mem_nil)⟩), hz_wsX120⟩)⟩)
set_option maxRecDepth 100000 in
theorem mz_388 : Cond.methodLink RL 33 yX12_fault ∈ lw_tbl := lw_t6 _ (List.mem_of_getElem? (i := 34) rfl)
set_option maxRecDepth 100000 in
theorem mz_389 : Cond.instanceMethod yX12_fault ∈ lw_tbl := lw_t6 _ (List.mem_of_getElem? (i := 35) rfl)
set_option maxRecDepth 100000 in
theorem mz_390 : Cond.selects RX12 yX12_fault yX12_fault ∈ lw_tbl := lw_t6 _ (List.mem_of_getElem? (i := 36) rfl)
set_option maxRecDepth 100000 in
theorem mz_391 : Cond.code yX11_rule cX11_rule 2 (some .int) ∈ lw_tbl := lw_t3 _ (List.mem_of_getElem? (i := 150) rfl)
set_option maxRecDepth 100000 in
theorem mz_392 : Cond.fieldLink RX11 130 "LadleKings$Rules" "seats" "I" ∈ lw_tbl := lw_t1 _ (List.mem_of_getElem? (i := 43) rfl)
set_option maxRecDepth 100000 in
theorem mz_393 : Cond.fieldLink RX11 133 "LadleKings$Rules" "stirs" "I" ∈ lw_tbl := lw_t1 _ (List.mem_of_getElem? (i := 48) rfl)
set_option maxRecDepth 100000 in
theorem mz_394 : Cond.fieldLink RX11 136 "LadleKings$State" "king" "I" ∈ lw_tbl := lw_t1 _ (List.mem_of_getElem? (i := 115) rfl)
set_option maxRecDepth 100000 in
theorem mz_395 : Cond.fieldLink RX11 139 "LadleKings$State" "days" "I" ∈ lw_tbl := lw_t1 _ (List.mem_of_getElem? (i := 120) rfl)
set_option maxRecDepth 100000 in
theorem mz_396 : Cond.fieldLink RX11 142 "LadleKings$State" "bone" "I" ∈ lw_tbl := lw_t1 _ (List.mem_of_getElem? (i := 107) rfl)
theorem hz_wsX11_rule : ∀ w ∈ wsX11_rule, w ∈ lw_tbl := (List.forall_mem_cons.mpr ⟨mz_391, (List.forall_mem_append.mpr ⟨(List.forall_mem_append.mpr ⟨(List.forall_mem_append.mpr ⟨(List.forall_mem_cons.mpr ⟨mz_38, (List.forall_mem_cons.mpr ⟨mz_392, (List.forall_mem_cons.mpr ⟨mz_393, (List.forall_mem_cons.mpr ⟨mz_40, (List.forall_mem_cons.mpr ⟨mz_394, (List.forall_mem_cons.mpr ⟨mz_395, (List.forall_mem_cons.mpr ⟨mz_396, (fun _ h => absurd h List.not_mem_nil)⟩)⟩)⟩)⟩)⟩)⟩)⟩), hz_wsX110⟩), hz_wsX60⟩), hz_wsX80⟩)⟩)
set_option maxRecDepth 100000 in
theorem mz_397 : Cond.methodLink RL 34 yX11_rule ∈ lw_tbl := lw_t3 _ (List.mem_of_getElem? (i := 147) rfl)
set_option maxRecDepth 100000 in
theorem mz_398 : Cond.instanceMethod yX11_rule ∈ lw_tbl := lw_t3 _ (List.mem_of_getElem? (i := 148) rfl)
set_option maxRecDepth 100000 in
theorem mz_399 : Cond.selects RX11 yX11_rule yX11_rule ∈ lw_tbl := lw_t3 _ (List.mem_of_getElem? (i := 149) rfl)
set_option maxRecDepth 100000 in
theorem mz_400 : Cond.code yX12_rule cX12_rule 2 (some .int) ∈ lw_tbl := lw_t6 _ (List.mem_of_getElem? (i := 41) rfl)
theorem hz_wsX12_rule : ∀ w ∈ wsX12_rule, w ∈ lw_tbl := (List.forall_mem_cons.mpr ⟨mz_400, (List.forall_mem_append.mpr ⟨(List.forall_mem_cons.mpr ⟨mz_371, (List.forall_mem_cons.mpr ⟨mz_372, (List.forall_mem_cons.mpr ⟨mz_370, (fun _ h => absurd h List.not_mem_nil)⟩)⟩)⟩), hz_wsX120⟩)⟩)
set_option maxRecDepth 100000 in
theorem mz_401 : Cond.methodLink RL 37 yX12_rule ∈ lw_tbl := lw_t6 _ (List.mem_of_getElem? (i := 38) rfl)
set_option maxRecDepth 100000 in
theorem mz_402 : Cond.instanceMethod yX12_rule ∈ lw_tbl := lw_t6 _ (List.mem_of_getElem? (i := 39) rfl)
set_option maxRecDepth 100000 in
theorem mz_403 : Cond.selects RX12 yX12_rule yX12_rule ∈ lw_tbl := lw_t6 _ (List.mem_of_getElem? (i := 40) rfl)
set_option maxRecDepth 100000 in
theorem mz_404 : Cond.code yX11_pot cX11_pot 2 (some .int) ∈ lw_tbl := lw_t3 _ (List.mem_of_getElem? (i := 154) rfl)
set_option maxRecDepth 100000 in
theorem mz_405 : Cond.fieldLink RX11 149 "LadleKings$State" "pieces" "[I" ∈ lw_tbl := lw_t1 _ (List.mem_of_getElem? (i := 86) rfl)
set_option maxRecDepth 100000 in
theorem mz_406 : Cond.methodLink RX11 145 yX6_hasSeat ∈ lw_tbl := lw_t3 _ (List.mem_of_getElem? (i := 155) rfl)
set_option maxRecDepth 100000 in
theorem mz_407 : Cond.instanceMethod yX6_hasSeat ∈ lw_tbl := lw_t3 _ (List.mem_of_getElem? (i := 156) rfl)
set_option maxRecDepth 100000 in
theorem mz_408 : Cond.selects RX6 yX6_hasSeat yX6_hasSeat ∈ lw_tbl := lw_t3 _ (List.mem_of_getElem? (i := 157) rfl)
set_option maxRecDepth 100000 in
theorem mz_409 : Cond.code yX6_hasSeat cX6_hasSeat 2 (some .boolean) ∈ lw_tbl := lw_t3 _ (List.mem_of_getElem? (i := 158) rfl)
theorem hz_wsX11_pot : ∀ w ∈ wsX11_pot, w ∈ lw_tbl := (List.forall_mem_cons.mpr ⟨mz_404, (List.forall_mem_append.mpr ⟨(List.forall_mem_append.mpr ⟨(List.forall_mem_append.mpr ⟨(List.forall_mem_cons.mpr ⟨mz_38, (List.forall_mem_cons.mpr ⟨mz_40, (List.forall_mem_cons.mpr ⟨mz_405, (List.forall_mem_cons.mpr ⟨mz_406, (List.forall_mem_cons.mpr ⟨mz_407, (List.forall_mem_cons.mpr ⟨mz_408, (List.forall_mem_cons.mpr ⟨mz_65, (List.forall_mem_cons.mpr ⟨mz_409, (List.forall_mem_cons.mpr ⟨mz_67, (fun _ h => absurd h List.not_mem_nil)⟩)⟩)⟩)⟩)⟩)⟩)⟩)⟩)⟩), hz_wsX110⟩), hz_wsX80⟩), hz_wsX60⟩)⟩)
set_option maxRecDepth 100000 in
theorem mz_410 : Cond.methodLink RL 38 yX11_pot ∈ lw_tbl := lw_t3 _ (List.mem_of_getElem? (i := 151) rfl)
set_option maxRecDepth 100000 in
theorem mz_411 : Cond.instanceMethod yX11_pot ∈ lw_tbl := lw_t3 _ (List.mem_of_getElem? (i := 152) rfl)
set_option maxRecDepth 100000 in
theorem mz_412 : Cond.selects RX11 yX11_pot yX11_pot ∈ lw_tbl := lw_t3 _ (List.mem_of_getElem? (i := 153) rfl)
set_option maxRecDepth 100000 in
theorem mz_413 : Cond.code yX12_pot cX12_pot 2 (some .int) ∈ lw_tbl := lw_t6 _ (List.mem_of_getElem? (i := 45) rfl)
set_option maxRecDepth 100000 in
theorem mz_414 : Cond.methodLink RX12 203 yX12_isSeat ∈ lw_tbl := lw_t6 _ (List.mem_of_getElem? (i := 46) rfl)
set_option maxRecDepth 100000 in
theorem mz_415 : Cond.instanceMethod yX12_isSeat ∈ lw_tbl := lw_t6 _ (List.mem_of_getElem? (i := 48) rfl)
theorem mz_416 : Cond.selects RX12 yX12_isSeat yX12_isSeat ∈ lw_tbl := List.mem_of_getElem? (i := 52) (by decide +kernel)
set_option maxRecDepth 100000 in
theorem mz_417 : Cond.code yX12_isSeat cX12_isSeat 2 (some .boolean) ∈ lw_tbl := lw_t6 _ (List.mem_of_getElem? (i := 49) rfl)
theorem hz_wsX12_pot : ∀ w ∈ wsX12_pot, w ∈ lw_tbl := (List.forall_mem_cons.mpr ⟨mz_413, (List.forall_mem_append.mpr ⟨(List.forall_mem_cons.mpr ⟨mz_370, (List.forall_mem_cons.mpr ⟨mz_414, (List.forall_mem_cons.mpr ⟨mz_415, (List.forall_mem_cons.mpr ⟨mz_416, (List.forall_mem_cons.mpr ⟨mz_22, (List.forall_mem_cons.mpr ⟨mz_417, (List.forall_mem_cons.mpr ⟨mz_371, (List.forall_mem_cons.mpr ⟨mz_28, (List.forall_mem_cons.mpr ⟨mz_29, (List.forall_mem_cons.mpr ⟨mz_30, (fun _ h => absurd h List.not_mem_nil)⟩)⟩)⟩)⟩)⟩)⟩)⟩)⟩)⟩)⟩), hz_wsX120⟩)⟩)
set_option maxRecDepth 100000 in
theorem mz_418 : Cond.methodLink RL 41 yX12_pot ∈ lw_tbl := lw_t6 _ (List.mem_of_getElem? (i := 42) rfl)
set_option maxRecDepth 100000 in
theorem mz_419 : Cond.instanceMethod yX12_pot ∈ lw_tbl := lw_t6 _ (List.mem_of_getElem? (i := 43) rfl)
set_option maxRecDepth 100000 in
theorem mz_420 : Cond.selects RX12 yX12_pot yX12_pot ∈ lw_tbl := lw_t6 _ (List.mem_of_getElem? (i := 44) rfl)
set_option maxRecDepth 100000 in
theorem mz_421 : Cond.code yX11_one cX11_one 3 (some .int) ∈ lw_tbl := lw_t3 _ (List.mem_of_getElem? (i := 162) rfl)
set_option maxRecDepth 100000 in
theorem mz_422 : Cond.fieldLink RX11 153 "LadleKings$State" "friends" "[I" ∈ lw_tbl := lw_t1 _ (List.mem_of_getElem? (i := 89) rfl)
set_option maxRecDepth 100000 in
theorem mz_423 : Cond.fieldLink RX11 156 "LadleKings$State" "spoons" "[I" ∈ lw_tbl := lw_t1 _ (List.mem_of_getElem? (i := 92) rfl)
set_option maxRecDepth 100000 in
theorem mz_424 : Cond.fieldLink RX11 159 "LadleKings$Rules" "need" "[I" ∈ lw_tbl := lw_t1 _ (List.mem_of_getElem? (i := 52) rfl)
set_option maxRecDepth 100000 in
theorem mz_425 : Cond.fieldLink RX11 162 "LadleKings$State" "eaten" "[I" ∈ lw_tbl := lw_t1 _ (List.mem_of_getElem? (i := 95) rfl)
theorem hz_wsX11_one : ∀ w ∈ wsX11_one, w ∈ lw_tbl := (List.forall_mem_cons.mpr ⟨mz_421, (List.forall_mem_append.mpr ⟨(List.forall_mem_append.mpr ⟨(List.forall_mem_append.mpr ⟨(List.forall_mem_cons.mpr ⟨mz_38, (List.forall_mem_cons.mpr ⟨mz_40, (List.forall_mem_cons.mpr ⟨mz_422, (List.forall_mem_cons.mpr ⟨mz_423, (List.forall_mem_cons.mpr ⟨mz_424, (List.forall_mem_cons.mpr ⟨mz_425, (List.forall_mem_cons.mpr ⟨mz_406, (List.forall_mem_cons.mpr ⟨mz_407, (List.forall_mem_cons.mpr ⟨mz_408, (List.forall_mem_cons.mpr ⟨mz_65, (List.forall_mem_cons.mpr ⟨mz_409, (List.forall_mem_cons.mpr ⟨mz_67, (fun _ h => absurd h List.not_mem_nil)⟩)⟩)⟩)⟩)⟩)⟩)⟩)⟩)⟩)⟩)⟩)⟩), hz_wsX110⟩), hz_wsX80⟩), hz_wsX60⟩)⟩)
set_option maxRecDepth 100000 in
theorem mz_426 : Cond.methodLink RL 42 yX11_one ∈ lw_tbl := lw_t3 _ (List.mem_of_getElem? (i := 159) rfl)
set_option maxRecDepth 100000 in
theorem mz_427 : Cond.instanceMethod yX11_one ∈ lw_tbl := lw_t3 _ (List.mem_of_getElem? (i := 160) rfl)
set_option maxRecDepth 100000 in
theorem mz_428 : Cond.selects RX11 yX11_one yX11_one ∈ lw_tbl := lw_t3 _ (List.mem_of_getElem? (i := 161) rfl)
set_option maxRecDepth 100000 in
theorem mz_429 : Cond.code yX12_one cX12_one 3 (some .int) ∈ lw_tbl := lw_t6 _ (List.mem_of_getElem? (i := 53) rfl)
theorem hz_wsX12_one : ∀ w ∈ wsX12_one, w ∈ lw_tbl := (List.forall_mem_cons.mpr ⟨mz_429, (List.forall_mem_append.mpr ⟨(List.forall_mem_cons.mpr ⟨mz_370, (List.forall_mem_cons.mpr ⟨mz_373, (List.forall_mem_cons.mpr ⟨mz_414, (List.forall_mem_cons.mpr ⟨mz_415, (List.forall_mem_cons.mpr ⟨mz_416, (List.forall_mem_cons.mpr ⟨mz_22, (List.forall_mem_cons.mpr ⟨mz_417, (List.forall_mem_cons.mpr ⟨mz_371, (List.forall_mem_cons.mpr ⟨mz_28, (List.forall_mem_cons.mpr ⟨mz_29, (List.forall_mem_cons.mpr ⟨mz_30, (fun _ h => absurd h List.not_mem_nil)⟩)⟩)⟩)⟩)⟩)⟩)⟩)⟩)⟩)⟩)⟩), hz_wsX120⟩)⟩)
set_option maxRecDepth 100000 in
theorem mz_430 : Cond.methodLink RL 46 yX12_one ∈ lw_tbl := lw_t6 _ (List.mem_of_getElem? (i := 50) rfl)
set_option maxRecDepth 100000 in
theorem mz_431 : Cond.instanceMethod yX12_one ∈ lw_tbl := lw_t6 _ (List.mem_of_getElem? (i := 51) rfl)
set_option maxRecDepth 100000 in
theorem mz_432 : Cond.selects RX12 yX12_one yX12_one ∈ lw_tbl := lw_t6 _ (List.mem_of_getElem? (i := 52) rfl)
set_option maxRecDepth 100000 in
theorem mz_433 : Cond.code yX11_stir cX11_stir 3 (some .int) ∈ lw_tbl := lw_t3 _ (List.mem_of_getElem? (i := 166) rfl)
set_option maxRecDepth 100000 in
theorem mz_434 : Cond.methodLink RX11 165 yX6_hasStir ∈ lw_tbl := lw_t3 _ (List.mem_of_getElem? (i := 167) rfl)
set_option maxRecDepth 100000 in
theorem mz_435 : Cond.instanceMethod yX6_hasStir ∈ lw_tbl := lw_t3 _ (List.mem_of_getElem? (i := 168) rfl)
set_option maxRecDepth 100000 in
theorem mz_436 : Cond.selects RX6 yX6_hasStir yX6_hasStir ∈ lw_tbl := lw_t3 _ (List.mem_of_getElem? (i := 169) rfl)
set_option maxRecDepth 100000 in
theorem mz_437 : Cond.code yX6_hasStir cX6_hasStir 2 (some .boolean) ∈ lw_tbl := lw_t3 _ (List.mem_of_getElem? (i := 170) rfl)
set_option maxRecDepth 100000 in
theorem mz_438 : Cond.methodLink RX11 168 yX6_placeAfter ∈ lw_tbl := lw_t3 _ (List.mem_of_getElem? (i := 171) rfl)
set_option maxRecDepth 100000 in
theorem mz_439 : Cond.instanceMethod yX6_placeAfter ∈ lw_tbl := lw_t3 _ (List.mem_of_getElem? (i := 172) rfl)
set_option maxRecDepth 100000 in
theorem mz_440 : Cond.selects RX6 yX6_placeAfter yX6_placeAfter ∈ lw_tbl := lw_t3 _ (List.mem_of_getElem? (i := 173) rfl)
set_option maxRecDepth 100000 in
theorem mz_441 : Cond.code yX6_placeAfter cX6_placeAfter 3 (some .int) ∈ lw_tbl := lw_t3 _ (List.mem_of_getElem? (i := 174) rfl)
theorem hz_wsX11_stir : ∀ w ∈ wsX11_stir, w ∈ lw_tbl := (List.forall_mem_cons.mpr ⟨mz_433, (List.forall_mem_append.mpr ⟨(List.forall_mem_append.mpr ⟨(List.forall_mem_cons.mpr ⟨mz_38, (List.forall_mem_cons.mpr ⟨mz_434, (List.forall_mem_cons.mpr ⟨mz_435, (List.forall_mem_cons.mpr ⟨mz_436, (List.forall_mem_cons.mpr ⟨mz_65, (List.forall_mem_cons.mpr ⟨mz_437, (List.forall_mem_cons.mpr ⟨mz_68, (List.forall_mem_cons.mpr ⟨mz_406, (List.forall_mem_cons.mpr ⟨mz_407, (List.forall_mem_cons.mpr ⟨mz_408, (List.forall_mem_cons.mpr ⟨mz_409, (List.forall_mem_cons.mpr ⟨mz_67, (List.forall_mem_cons.mpr ⟨mz_438, (List.forall_mem_cons.mpr ⟨mz_439, (List.forall_mem_cons.mpr ⟨mz_440, (List.forall_mem_cons.mpr ⟨mz_441, (List.forall_mem_cons.mpr ⟨mz_249, (fun _ h => absurd h List.not_mem_nil)⟩)⟩)⟩)⟩)⟩)⟩)⟩)⟩)⟩)⟩)⟩)⟩)⟩)⟩)⟩)⟩)⟩), hz_wsX110⟩), hz_wsX60⟩)⟩)
set_option maxRecDepth 100000 in
theorem mz_442 : Cond.methodLink RL 47 yX11_stir ∈ lw_tbl := lw_t3 _ (List.mem_of_getElem? (i := 163) rfl)
set_option maxRecDepth 100000 in
theorem mz_443 : Cond.instanceMethod yX11_stir ∈ lw_tbl := lw_t3 _ (List.mem_of_getElem? (i := 164) rfl)
set_option maxRecDepth 100000 in
theorem mz_444 : Cond.selects RX11 yX11_stir yX11_stir ∈ lw_tbl := lw_t3 _ (List.mem_of_getElem? (i := 165) rfl)
set_option maxRecDepth 100000 in
theorem mz_445 : Cond.code yX12_stir cX12_stir 3 (some .int) ∈ lw_tbl := lw_t6 _ (List.mem_of_getElem? (i := 57) rfl)
set_option maxRecDepth 100000 in
theorem mz_446 : Cond.methodLink RX12 207 yX12_isStir ∈ lw_tbl := lw_t6 _ (List.mem_of_getElem? (i := 58) rfl)
set_option maxRecDepth 100000 in
theorem mz_447 : Cond.instanceMethod yX12_isStir ∈ lw_tbl := lw_t6 _ (List.mem_of_getElem? (i := 60) rfl)
theorem mz_448 : Cond.selects RX12 yX12_isStir yX12_isStir ∈ lw_tbl := List.mem_of_getElem? (i := 53) (by decide +kernel)
set_option maxRecDepth 100000 in
theorem mz_449 : Cond.code yX12_isStir cX12_isStir 2 (some .boolean) ∈ lw_tbl := lw_t6 _ (List.mem_of_getElem? (i := 61) rfl)
theorem hz_wsX12_stir : ∀ w ∈ wsX12_stir, w ∈ lw_tbl := (List.forall_mem_cons.mpr ⟨mz_445, (List.forall_mem_append.mpr ⟨(List.forall_mem_cons.mpr ⟨mz_374, (List.forall_mem_cons.mpr ⟨mz_446, (List.forall_mem_cons.mpr ⟨mz_447, (List.forall_mem_cons.mpr ⟨mz_448, (List.forall_mem_cons.mpr ⟨mz_22, (List.forall_mem_cons.mpr ⟨mz_449, (List.forall_mem_cons.mpr ⟨mz_372, (List.forall_mem_cons.mpr ⟨mz_28, (List.forall_mem_cons.mpr ⟨mz_29, (List.forall_mem_cons.mpr ⟨mz_30, (List.forall_mem_cons.mpr ⟨mz_414, (List.forall_mem_cons.mpr ⟨mz_415, (List.forall_mem_cons.mpr ⟨mz_416, (List.forall_mem_cons.mpr ⟨mz_417, (List.forall_mem_cons.mpr ⟨mz_371, (fun _ h => absurd h List.not_mem_nil)⟩)⟩)⟩)⟩)⟩)⟩)⟩)⟩)⟩)⟩)⟩)⟩)⟩)⟩)⟩), hz_wsX120⟩)⟩)
set_option maxRecDepth 100000 in
theorem mz_450 : Cond.methodLink RL 50 yX12_stir ∈ lw_tbl := lw_t6 _ (List.mem_of_getElem? (i := 54) rfl)
set_option maxRecDepth 100000 in
theorem mz_451 : Cond.instanceMethod yX12_stir ∈ lw_tbl := lw_t6 _ (List.mem_of_getElem? (i := 55) rfl)
set_option maxRecDepth 100000 in
theorem mz_452 : Cond.selects RX12 yX12_stir yX12_stir ∈ lw_tbl := lw_t6 _ (List.mem_of_getElem? (i := 56) rfl)
set_option maxRecDepth 100000 in
theorem mz_453 : Cond.code yX11_befriend cX11_befriend 5 (some .int) ∈ lw_tbl := lw_t3 _ (List.mem_of_getElem? (i := 178) rfl)
set_option maxRecDepth 100000 in
theorem mz_454 : Cond.methodLink RX11 172 yX8_isFriend ∈ lw_tbl := lw_t3 _ (List.mem_of_getElem? (i := 179) rfl)
set_option maxRecDepth 100000 in
theorem mz_455 : Cond.methodLink RX11 176 yX8_setFriend ∈ lw_tbl := lw_t3 _ (List.mem_of_getElem? (i := 180) rfl)
theorem hz_wsX11_befriend : ∀ w ∈ wsX11_befriend, w ∈ lw_tbl := (List.forall_mem_cons.mpr ⟨mz_453, (List.forall_mem_append.mpr ⟨(List.forall_mem_append.mpr ⟨(List.forall_mem_append.mpr ⟨(List.forall_mem_cons.mpr ⟨mz_38, (List.forall_mem_cons.mpr ⟨mz_40, (List.forall_mem_cons.mpr ⟨mz_406, (List.forall_mem_cons.mpr ⟨mz_407, (List.forall_mem_cons.mpr ⟨mz_408, (List.forall_mem_cons.mpr ⟨mz_65, (List.forall_mem_cons.mpr ⟨mz_409, (List.forall_mem_cons.mpr ⟨mz_67, (List.forall_mem_cons.mpr ⟨mz_454, (List.forall_mem_cons.mpr ⟨mz_242, (List.forall_mem_cons.mpr ⟨mz_243, (List.forall_mem_cons.mpr ⟨mz_77, (List.forall_mem_cons.mpr ⟨mz_244, (List.forall_mem_cons.mpr ⟨mz_80, (List.forall_mem_cons.mpr ⟨mz_455, (List.forall_mem_cons.mpr ⟨mz_215, (List.forall_mem_cons.mpr ⟨mz_216, (List.forall_mem_cons.mpr ⟨mz_217, (fun _ h => absurd h List.not_mem_nil)⟩)⟩)⟩)⟩)⟩)⟩)⟩)⟩)⟩)⟩)⟩)⟩)⟩)⟩)⟩)⟩)⟩)⟩), hz_wsX110⟩), hz_wsX60⟩), hz_wsX80⟩)⟩)
set_option maxRecDepth 100000 in
theorem mz_456 : Cond.methodLink RL 51 yX11_befriend ∈ lw_tbl := lw_t3 _ (List.mem_of_getElem? (i := 175) rfl)
set_option maxRecDepth 100000 in
theorem mz_457 : Cond.instanceMethod yX11_befriend ∈ lw_tbl := lw_t3 _ (List.mem_of_getElem? (i := 176) rfl)
set_option maxRecDepth 100000 in
theorem mz_458 : Cond.selects RX11 yX11_befriend yX11_befriend ∈ lw_tbl := lw_t3 _ (List.mem_of_getElem? (i := 177) rfl)
set_option maxRecDepth 100000 in
theorem mz_459 : Cond.code yX12_befriend cX12_befriend 5 (some .int) ∈ lw_tbl := lw_t6 _ (List.mem_of_getElem? (i := 65) rfl)
theorem hz_wsX12_befriend : ∀ w ∈ wsX12_befriend, w ∈ lw_tbl := (List.forall_mem_cons.mpr ⟨mz_459, (List.forall_mem_append.mpr ⟨(List.forall_mem_cons.mpr ⟨mz_370, (List.forall_mem_cons.mpr ⟨mz_414, (List.forall_mem_cons.mpr ⟨mz_415, (List.forall_mem_cons.mpr ⟨mz_416, (List.forall_mem_cons.mpr ⟨mz_22, (List.forall_mem_cons.mpr ⟨mz_417, (List.forall_mem_cons.mpr ⟨mz_371, (List.forall_mem_cons.mpr ⟨mz_28, (List.forall_mem_cons.mpr ⟨mz_29, (List.forall_mem_cons.mpr ⟨mz_30, (fun _ h => absurd h List.not_mem_nil)⟩)⟩)⟩)⟩)⟩)⟩)⟩)⟩)⟩)⟩), hz_wsX120⟩)⟩)
set_option maxRecDepth 100000 in
theorem mz_460 : Cond.methodLink RL 55 yX12_befriend ∈ lw_tbl := lw_t6 _ (List.mem_of_getElem? (i := 62) rfl)
set_option maxRecDepth 100000 in
theorem mz_461 : Cond.instanceMethod yX12_befriend ∈ lw_tbl := lw_t6 _ (List.mem_of_getElem? (i := 63) rfl)
set_option maxRecDepth 100000 in
theorem mz_462 : Cond.selects RX12 yX12_befriend yX12_befriend ∈ lw_tbl := lw_t6 _ (List.mem_of_getElem? (i := 64) rfl)
set_option maxRecDepth 100000 in
theorem mz_463 : Cond.code yX11_spoon cX11_spoon 4 (some .int) ∈ lw_tbl := lw_t3 _ (List.mem_of_getElem? (i := 184) rfl)
theorem hz_wsX11_spoon : ∀ w ∈ wsX11_spoon, w ∈ lw_tbl := (List.forall_mem_cons.mpr ⟨mz_463, (List.forall_mem_append.mpr ⟨(List.forall_mem_append.mpr ⟨(List.forall_mem_append.mpr ⟨(List.forall_mem_cons.mpr ⟨mz_38, (List.forall_mem_cons.mpr ⟨mz_40, (List.forall_mem_cons.mpr ⟨mz_423, (List.forall_mem_cons.mpr ⟨mz_406, (List.forall_mem_cons.mpr ⟨mz_407, (List.forall_mem_cons.mpr ⟨mz_408, (List.forall_mem_cons.mpr ⟨mz_65, (List.forall_mem_cons.mpr ⟨mz_409, (List.forall_mem_cons.mpr ⟨mz_67, (fun _ h => absurd h List.not_mem_nil)⟩)⟩)⟩)⟩)⟩)⟩)⟩)⟩)⟩), hz_wsX110⟩), hz_wsX80⟩), hz_wsX60⟩)⟩)
set_option maxRecDepth 100000 in
theorem mz_464 : Cond.methodLink RL 56 yX11_spoon ∈ lw_tbl := lw_t3 _ (List.mem_of_getElem? (i := 181) rfl)
set_option maxRecDepth 100000 in
theorem mz_465 : Cond.instanceMethod yX11_spoon ∈ lw_tbl := lw_t3 _ (List.mem_of_getElem? (i := 182) rfl)
set_option maxRecDepth 100000 in
theorem mz_466 : Cond.selects RX11 yX11_spoon yX11_spoon ∈ lw_tbl := lw_t3 _ (List.mem_of_getElem? (i := 183) rfl)
set_option maxRecDepth 100000 in
theorem mz_467 : Cond.code yX12_spoon cX12_spoon 4 (some .int) ∈ lw_tbl := lw_t6 _ (List.mem_of_getElem? (i := 69) rfl)
set_option maxRecDepth 100000 in
theorem mz_468 : Cond.constantLong RX12 210 (9) ∈ lw_tbl := lw_t6 _ (List.mem_of_getElem? (i := 70) rfl)
theorem hz_wsX12_spoon : ∀ w ∈ wsX12_spoon, w ∈ lw_tbl := (List.forall_mem_cons.mpr ⟨mz_467, (List.forall_mem_append.mpr ⟨(List.forall_mem_cons.mpr ⟨mz_468, (List.forall_mem_cons.mpr ⟨mz_370, (List.forall_mem_cons.mpr ⟨mz_414, (List.forall_mem_cons.mpr ⟨mz_415, (List.forall_mem_cons.mpr ⟨mz_416, (List.forall_mem_cons.mpr ⟨mz_22, (List.forall_mem_cons.mpr ⟨mz_417, (List.forall_mem_cons.mpr ⟨mz_371, (List.forall_mem_cons.mpr ⟨mz_28, (List.forall_mem_cons.mpr ⟨mz_29, (List.forall_mem_cons.mpr ⟨mz_30, (fun _ h => absurd h List.not_mem_nil)⟩)⟩)⟩)⟩)⟩)⟩)⟩)⟩)⟩)⟩)⟩), hz_wsX120⟩)⟩)
set_option maxRecDepth 100000 in
theorem mz_469 : Cond.methodLink RL 59 yX12_spoon ∈ lw_tbl := lw_t6 _ (List.mem_of_getElem? (i := 66) rfl)
set_option maxRecDepth 100000 in
theorem mz_470 : Cond.instanceMethod yX12_spoon ∈ lw_tbl := lw_t6 _ (List.mem_of_getElem? (i := 67) rfl)
set_option maxRecDepth 100000 in
theorem mz_471 : Cond.selects RX12 yX12_spoon yX12_spoon ∈ lw_tbl := lw_t6 _ (List.mem_of_getElem? (i := 68) rfl)
set_option maxRecDepth 100000 in
theorem mz_472 : Cond.code yX11_crown cX11_crown 3 (some .int) ∈ lw_tbl := lw_t3 _ (List.mem_of_getElem? (i := 188) rfl)
theorem hz_wsX11_crown : ∀ w ∈ wsX11_crown, w ∈ lw_tbl := (List.forall_mem_cons.mpr ⟨mz_472, (List.forall_mem_append.mpr ⟨(List.forall_mem_append.mpr ⟨(List.forall_mem_append.mpr ⟨(List.forall_mem_cons.mpr ⟨mz_38, (List.forall_mem_cons.mpr ⟨mz_40, (List.forall_mem_cons.mpr ⟨mz_394, (List.forall_mem_cons.mpr ⟨mz_406, (List.forall_mem_cons.mpr ⟨mz_407, (List.forall_mem_cons.mpr ⟨mz_408, (List.forall_mem_cons.mpr ⟨mz_65, (List.forall_mem_cons.mpr ⟨mz_409, (List.forall_mem_cons.mpr ⟨mz_67, (fun _ h => absurd h List.not_mem_nil)⟩)⟩)⟩)⟩)⟩)⟩)⟩)⟩)⟩), hz_wsX110⟩), hz_wsX80⟩), hz_wsX60⟩)⟩)
set_option maxRecDepth 100000 in
theorem mz_473 : Cond.methodLink RL 60 yX11_crown ∈ lw_tbl := lw_t3 _ (List.mem_of_getElem? (i := 185) rfl)
set_option maxRecDepth 100000 in
theorem mz_474 : Cond.instanceMethod yX11_crown ∈ lw_tbl := lw_t3 _ (List.mem_of_getElem? (i := 186) rfl)
set_option maxRecDepth 100000 in
theorem mz_475 : Cond.selects RX11 yX11_crown yX11_crown ∈ lw_tbl := lw_t3 _ (List.mem_of_getElem? (i := 187) rfl)
set_option maxRecDepth 100000 in
theorem mz_476 : Cond.code yX12_crown cX12_crown 3 (some .int) ∈ lw_tbl := lw_t6 _ (List.mem_of_getElem? (i := 74) rfl)
theorem hz_wsX12_crown : ∀ w ∈ wsX12_crown, w ∈ lw_tbl := (List.forall_mem_cons.mpr ⟨mz_476, (List.forall_mem_append.mpr ⟨(List.forall_mem_cons.mpr ⟨mz_370, (List.forall_mem_cons.mpr ⟨mz_414, (List.forall_mem_cons.mpr ⟨mz_415, (List.forall_mem_cons.mpr ⟨mz_416, (List.forall_mem_cons.mpr ⟨mz_22, (List.forall_mem_cons.mpr ⟨mz_417, (List.forall_mem_cons.mpr ⟨mz_371, (List.forall_mem_cons.mpr ⟨mz_28, (List.forall_mem_cons.mpr ⟨mz_29, (List.forall_mem_cons.mpr ⟨mz_30, (fun _ h => absurd h List.not_mem_nil)⟩)⟩)⟩)⟩)⟩)⟩)⟩)⟩)⟩)⟩), hz_wsX120⟩)⟩)
set_option maxRecDepth 100000 in
theorem mz_477 : Cond.methodLink RL 63 yX12_crown ∈ lw_tbl := lw_t6 _ (List.mem_of_getElem? (i := 71) rfl)
set_option maxRecDepth 100000 in
theorem mz_478 : Cond.instanceMethod yX12_crown ∈ lw_tbl := lw_t6 _ (List.mem_of_getElem? (i := 72) rfl)
set_option maxRecDepth 100000 in
theorem mz_479 : Cond.selects RX12 yX12_crown yX12_crown ∈ lw_tbl := lw_t6 _ (List.mem_of_getElem? (i := 73) rfl)
set_option maxRecDepth 100000 in
theorem mz_480 : Cond.code yX11_fill cX11_fill 4 (some .int) ∈ lw_tbl := lw_t3 _ (List.mem_of_getElem? (i := 192) rfl)
theorem hz_wsX11_fill : ∀ w ∈ wsX11_fill, w ∈ lw_tbl := (List.forall_mem_cons.mpr ⟨mz_480, (List.forall_mem_append.mpr ⟨(List.forall_mem_append.mpr ⟨(List.forall_mem_append.mpr ⟨(List.forall_mem_cons.mpr ⟨mz_38, (List.forall_mem_cons.mpr ⟨mz_40, (List.forall_mem_cons.mpr ⟨mz_405, (List.forall_mem_cons.mpr ⟨mz_406, (List.forall_mem_cons.mpr ⟨mz_407, (List.forall_mem_cons.mpr ⟨mz_408, (List.forall_mem_cons.mpr ⟨mz_65, (List.forall_mem_cons.mpr ⟨mz_409, (List.forall_mem_cons.mpr ⟨mz_67, (fun _ h => absurd h List.not_mem_nil)⟩)⟩)⟩)⟩)⟩)⟩)⟩)⟩)⟩), hz_wsX110⟩), hz_wsX80⟩), hz_wsX60⟩)⟩)
set_option maxRecDepth 100000 in
theorem mz_481 : Cond.methodLink RL 64 yX11_fill ∈ lw_tbl := lw_t3 _ (List.mem_of_getElem? (i := 189) rfl)
set_option maxRecDepth 100000 in
theorem mz_482 : Cond.instanceMethod yX11_fill ∈ lw_tbl := lw_t3 _ (List.mem_of_getElem? (i := 190) rfl)
set_option maxRecDepth 100000 in
theorem mz_483 : Cond.selects RX11 yX11_fill yX11_fill ∈ lw_tbl := lw_t3 _ (List.mem_of_getElem? (i := 191) rfl)
set_option maxRecDepth 100000 in
theorem mz_484 : Cond.code yX12_fill cX12_fill 4 (some .int) ∈ lw_tbl := lw_t6 _ (List.mem_of_getElem? (i := 78) rfl)
theorem hz_wsX12_fill : ∀ w ∈ wsX12_fill, w ∈ lw_tbl := (List.forall_mem_cons.mpr ⟨mz_484, (List.forall_mem_append.mpr ⟨(List.forall_mem_cons.mpr ⟨mz_468, (List.forall_mem_cons.mpr ⟨mz_370, (List.forall_mem_cons.mpr ⟨mz_414, (List.forall_mem_cons.mpr ⟨mz_415, (List.forall_mem_cons.mpr ⟨mz_416, (List.forall_mem_cons.mpr ⟨mz_22, (List.forall_mem_cons.mpr ⟨mz_417, (List.forall_mem_cons.mpr ⟨mz_371, (List.forall_mem_cons.mpr ⟨mz_28, (List.forall_mem_cons.mpr ⟨mz_29, (List.forall_mem_cons.mpr ⟨mz_30, (fun _ h => absurd h List.not_mem_nil)⟩)⟩)⟩)⟩)⟩)⟩)⟩)⟩)⟩)⟩)⟩), hz_wsX120⟩)⟩)
set_option maxRecDepth 100000 in
theorem mz_485 : Cond.methodLink RL 67 yX12_fill ∈ lw_tbl := lw_t6 _ (List.mem_of_getElem? (i := 75) rfl)
set_option maxRecDepth 100000 in
theorem mz_486 : Cond.instanceMethod yX12_fill ∈ lw_tbl := lw_t6 _ (List.mem_of_getElem? (i := 76) rfl)
set_option maxRecDepth 100000 in
theorem mz_487 : Cond.selects RX12 yX12_fill yX12_fill ∈ lw_tbl := lw_t6 _ (List.mem_of_getElem? (i := 77) rfl)
set_option maxRecDepth 100000 in
theorem mz_488 : Cond.code yX11_bowl cX11_bowl 4 (some .int) ∈ lw_tbl := lw_t3 _ (List.mem_of_getElem? (i := 196) rfl)
set_option maxRecDepth 100000 in
theorem mz_489 : Cond.fieldLink RX11 44 "LadleKings" "kitchen" "LLadleKings$Kitchen;" ∈ lw_tbl := lw_t2 _ (List.mem_of_getElem? (i := 126) rfl)
set_option maxRecDepth 100000 in
theorem mz_490 : Cond.methodLink RX11 180 yX2_serve ∈ lw_tbl := lw_t3 _ (List.mem_of_getElem? (i := 197) rfl)
set_option maxRecDepth 100000 in
theorem mz_491 : Cond.instanceMethod yX2_serve ∈ lw_tbl := lw_t3 _ (List.mem_of_getElem? (i := 198) rfl)
set_option maxRecDepth 100000 in
theorem mz_492 : Cond.selects RX2 yX2_serve yX2_serve ∈ lw_tbl := lw_t3 _ (List.mem_of_getElem? (i := 199) rfl)
set_option maxRecDepth 100000 in
theorem mz_493 : Cond.initialized RX2 ∈ lw_tbl := lw_t1 _ (List.mem_of_getElem? (i := 7) rfl)
set_option maxRecDepth 100000 in
theorem mz_494 : Cond.code yX2_serve cX2_serve 7 none ∈ lw_tbl := lw_t3 _ (List.mem_of_getElem? (i := 200) rfl)
set_option maxRecDepth 100000 in
theorem mz_495 : Cond.fieldLink RX2 21 "LadleKings$Kitchen" "rules" "LLadleKings$Rules;" ∈ lw_tbl := lw_t1 _ (List.mem_of_getElem? (i := 219) rfl)
set_option maxRecDepth 100000 in
theorem mz_496 : Cond.fieldLink RX2 29 "LadleKings$Rules" "seats" "I" ∈ lw_tbl := lw_t1 _ (List.mem_of_getElem? (i := 37) rfl)
set_option maxRecDepth 100000 in
theorem mz_497 : Cond.fieldLink RX2 25 "LadleKings$Kitchen" "state" "LLadleKings$State;" ∈ lw_tbl := lw_t1 _ (List.mem_of_getElem? (i := 225) rfl)
set_option maxRecDepth 100000 in
theorem mz_498 : Cond.fieldLink RX2 9 "LadleKings$Kitchen" "places" "[I" ∈ lw_tbl := lw_t1 _ (List.mem_of_getElem? (i := 231) rfl)
set_option maxRecDepth 100000 in
theorem mz_499 : Cond.fieldLink RX2 15 "LadleKings$Kitchen" "holders" "[I" ∈ lw_tbl := lw_t1 _ (List.mem_of_getElem? (i := 232) rfl)
set_option maxRecDepth 100000 in
theorem mz_500 : Cond.methodLink RX2 35 yX6_inRing ∈ lw_tbl := lw_t3 _ (List.mem_of_getElem? (i := 201) rfl)
theorem hz_wsX11_bowl_r1 : ∀ w ∈ wsX11_bowl_r1, w ∈ lw_tbl := (List.forall_mem_cons.mpr ⟨mz_38, (List.forall_mem_cons.mpr ⟨mz_489, (List.forall_mem_cons.mpr ⟨mz_406, (List.forall_mem_cons.mpr ⟨mz_407, (List.forall_mem_cons.mpr ⟨mz_408, (List.forall_mem_cons.mpr ⟨mz_65, (List.forall_mem_cons.mpr ⟨mz_409, (List.forall_mem_cons.mpr ⟨mz_67, (List.forall_mem_cons.mpr ⟨mz_434, (List.forall_mem_cons.mpr ⟨mz_435, (List.forall_mem_cons.mpr ⟨mz_436, (List.forall_mem_cons.mpr ⟨mz_437, (List.forall_mem_cons.mpr ⟨mz_68, (List.forall_mem_cons.mpr ⟨mz_490, (List.forall_mem_cons.mpr ⟨mz_491, (List.forall_mem_cons.mpr ⟨mz_492, (List.forall_mem_cons.mpr ⟨mz_493, (List.forall_mem_cons.mpr ⟨mz_494, (List.forall_mem_cons.mpr ⟨mz_495, (List.forall_mem_cons.mpr ⟨mz_496, (List.forall_mem_cons.mpr ⟨mz_497, (List.forall_mem_cons.mpr ⟨mz_498, (List.forall_mem_cons.mpr ⟨mz_499, (List.forall_mem_cons.mpr ⟨mz_500, (fun _ h => absurd h List.not_mem_nil)⟩)⟩)⟩)⟩)⟩)⟩)⟩)⟩)⟩)⟩)⟩)⟩)⟩)⟩)⟩)⟩)⟩)⟩)⟩)⟩)⟩)⟩)⟩)⟩)
set_option maxRecDepth 100000 in
theorem mz_501 : Cond.methodLink RX2 39 yX8_isFriend ∈ lw_tbl := lw_t3 _ (List.mem_of_getElem? (i := 202) rfl)
set_option maxRecDepth 100000 in
theorem mz_502 : Cond.methodLink RX11 184 yX2_stirPot ∈ lw_tbl := lw_t3 _ (List.mem_of_getElem? (i := 203) rfl)
set_option maxRecDepth 100000 in
theorem mz_503 : Cond.instanceMethod yX2_stirPot ∈ lw_tbl := lw_t3 _ (List.mem_of_getElem? (i := 204) rfl)
set_option maxRecDepth 100000 in
theorem mz_504 : Cond.selects RX2 yX2_stirPot yX2_stirPot ∈ lw_tbl := lw_t3 _ (List.mem_of_getElem? (i := 205) rfl)
set_option maxRecDepth 100000 in
theorem mz_505 : Cond.code yX2_stirPot cX2_stirPot 2 none ∈ lw_tbl := lw_t3 _ (List.mem_of_getElem? (i := 206) rfl)
set_option maxRecDepth 100000 in
theorem mz_506 : Cond.fieldLink RX2 49 "LadleKings$State" "pieces" "[I" ∈ lw_tbl := lw_t1 _ (List.mem_of_getElem? (i := 85) rfl)
set_option maxRecDepth 100000 in
theorem mz_507 : Cond.fieldLink RX2 18 "LadleKings$Kitchen" "stirred" "[I" ∈ lw_tbl := lw_t1 _ (List.mem_of_getElem? (i := 233) rfl)
set_option maxRecDepth 100000 in
theorem mz_508 : Cond.methodLink RX2 52 yX6_stirInto ∈ lw_tbl := lw_t3 _ (List.mem_of_getElem? (i := 207) rfl)
set_option maxRecDepth 100000 in
theorem mz_509 : Cond.instanceMethod yX6_stirInto ∈ lw_tbl := lw_t3 _ (List.mem_of_getElem? (i := 208) rfl)
set_option maxRecDepth 100000 in
theorem mz_510 : Cond.selects RX6 yX6_stirInto yX6_stirInto ∈ lw_tbl := lw_t3 _ (List.mem_of_getElem? (i := 209) rfl)
set_option maxRecDepth 100000 in
theorem mz_511 : Cond.code yX6_stirInto cX6_stirInto 5 none ∈ lw_tbl := lw_t3 _ (List.mem_of_getElem? (i := 210) rfl)
set_option maxRecDepth 100000 in
theorem mz_512 : Cond.methodLink RX6 61 yX6_placeAfter ∈ lw_tbl := lw_t3 _ (List.mem_of_getElem? (i := 211) rfl)
theorem hz_wsX11_bowl_r2 : ∀ w ∈ wsX11_bowl_r2, w ∈ lw_tbl := (List.forall_mem_cons.mpr ⟨mz_255, (List.forall_mem_cons.mpr ⟨mz_256, (List.forall_mem_cons.mpr ⟨mz_257, (List.forall_mem_cons.mpr ⟨mz_501, (List.forall_mem_cons.mpr ⟨mz_242, (List.forall_mem_cons.mpr ⟨mz_243, (List.forall_mem_cons.mpr ⟨mz_77, (List.forall_mem_cons.mpr ⟨mz_244, (List.forall_mem_cons.mpr ⟨mz_80, (List.forall_mem_cons.mpr ⟨mz_502, (List.forall_mem_cons.mpr ⟨mz_503, (List.forall_mem_cons.mpr ⟨mz_504, (List.forall_mem_cons.mpr ⟨mz_505, (List.forall_mem_cons.mpr ⟨mz_506, (List.forall_mem_cons.mpr ⟨mz_507, (List.forall_mem_cons.mpr ⟨mz_508, (List.forall_mem_cons.mpr ⟨mz_509, (List.forall_mem_cons.mpr ⟨mz_510, (List.forall_mem_cons.mpr ⟨mz_511, (List.forall_mem_cons.mpr ⟨mz_512, (List.forall_mem_cons.mpr ⟨mz_439, (List.forall_mem_cons.mpr ⟨mz_440, (List.forall_mem_cons.mpr ⟨mz_441, (List.forall_mem_cons.mpr ⟨mz_249, (fun _ h => absurd h List.not_mem_nil)⟩)⟩)⟩)⟩)⟩)⟩)⟩)⟩)⟩)⟩)⟩)⟩)⟩)⟩)⟩)⟩)⟩)⟩)⟩)⟩)⟩)⟩)⟩)⟩)
set_option maxRecDepth 100000 in
theorem mz_513 : Cond.methodLink RX11 187 yX2_bowlOf ∈ lw_tbl := lw_t3 _ (List.mem_of_getElem? (i := 212) rfl)
set_option maxRecDepth 100000 in
theorem mz_514 : Cond.instanceMethod yX2_bowlOf ∈ lw_tbl := lw_t3 _ (List.mem_of_getElem? (i := 213) rfl)
set_option maxRecDepth 100000 in
theorem mz_515 : Cond.selects RX2 yX2_bowlOf yX2_bowlOf ∈ lw_tbl := lw_t3 _ (List.mem_of_getElem? (i := 214) rfl)
set_option maxRecDepth 100000 in
theorem mz_516 : Cond.code yX2_bowlOf cX2_bowlOf 3 (some .int) ∈ lw_tbl := lw_t3 _ (List.mem_of_getElem? (i := 215) rfl)
set_option maxRecDepth 100000 in
theorem mz_517 : Cond.methodLink RX2 56 yX2_placeOf ∈ lw_tbl := lw_t3 _ (List.mem_of_getElem? (i := 216) rfl)
set_option maxRecDepth 100000 in
theorem mz_518 : Cond.instanceMethod yX2_placeOf ∈ lw_tbl := lw_t3 _ (List.mem_of_getElem? (i := 217) rfl)
set_option maxRecDepth 100000 in
theorem mz_519 : Cond.selects RX2 yX2_placeOf yX2_placeOf ∈ lw_tbl := lw_t3 _ (List.mem_of_getElem? (i := 218) rfl)
set_option maxRecDepth 100000 in
theorem mz_520 : Cond.code yX2_placeOf cX2_placeOf 3 (some .int) ∈ lw_tbl := lw_t3 _ (List.mem_of_getElem? (i := 219) rfl)
theorem hz_wsX11_bowl_r3 : ∀ w ∈ wsX11_bowl_r3, w ∈ lw_tbl := (List.forall_mem_cons.mpr ⟨mz_513, (List.forall_mem_cons.mpr ⟨mz_514, (List.forall_mem_cons.mpr ⟨mz_515, (List.forall_mem_cons.mpr ⟨mz_516, (List.forall_mem_cons.mpr ⟨mz_517, (List.forall_mem_cons.mpr ⟨mz_518, (List.forall_mem_cons.mpr ⟨mz_519, (List.forall_mem_cons.mpr ⟨mz_520, (fun _ h => absurd h List.not_mem_nil)⟩)⟩)⟩)⟩)⟩)⟩)⟩)⟩)
set_option maxRecDepth 100000 in
theorem hz_wsX20 : ∀ w ∈ wsX20, w ∈ lw_tbl := fun w h => (goodIn_r (big := lw_tbl) wsX20 [308, 310, 312, 314, 316] rfl (by decide +kernel) w h).1
theorem hz_wsX11_bowl : ∀ w ∈ wsX11_bowl, w ∈ lw_tbl := (List.forall_mem_cons.mpr ⟨mz_488, (List.forall_mem_append.mpr ⟨(List.forall_mem_append.mpr ⟨(List.forall_mem_append.mpr ⟨(List.forall_mem_append.mpr ⟨(List.forall_mem_append.mpr ⟨hz_wsX11_bowl_r1, (List.forall_mem_append.mpr ⟨hz_wsX11_bowl_r2, hz_wsX11_bowl_r3⟩)⟩), hz_wsX110⟩), hz_wsX60⟩), hz_wsX20⟩), hz_wsX80⟩)⟩)
set_option maxRecDepth 100000 in
theorem mz_521 : Cond.methodLink RL 68 yX11_bowl ∈ lw_tbl := lw_t3 _ (List.mem_of_getElem? (i := 193) rfl)
set_option maxRecDepth 100000 in
theorem mz_522 : Cond.instanceMethod yX11_bowl ∈ lw_tbl := lw_t3 _ (List.mem_of_getElem? (i := 194) rfl)
set_option maxRecDepth 100000 in
theorem mz_523 : Cond.selects RX11 yX11_bowl yX11_bowl ∈ lw_tbl := lw_t3 _ (List.mem_of_getElem? (i := 195) rfl)
set_option maxRecDepth 100000 in
theorem mz_524 : Cond.code yX12_bowl cX12_bowl 4 (some .int) ∈ lw_tbl := lw_t6 _ (List.mem_of_getElem? (i := 82) rfl)
set_option maxRecDepth 100000 in
theorem mz_525 : Cond.fieldLink RX12 35 "LadleKingsModel" "places" "[I" ∈ lw_tbl := lw_t5 _ (List.mem_of_getElem? (i := 97) rfl)
set_option maxRecDepth 100000 in
theorem mz_526 : Cond.methodLink RX12 216 yX12_findPlaces ∈ lw_tbl := lw_t6 _ (List.mem_of_getElem? (i := 83) rfl)
set_option maxRecDepth 100000 in
theorem mz_527 : Cond.instanceMethod yX12_findPlaces ∈ lw_tbl := lw_t6 _ (List.mem_of_getElem? (i := 85) rfl)
theorem mz_528 : Cond.selects RX12 yX12_findPlaces yX12_findPlaces ∈ lw_tbl := List.mem_of_getElem? (i := 54) (by decide +kernel)
set_option maxRecDepth 100000 in
theorem mz_529 : Cond.code yX12_findPlaces cX12_findPlaces 7 none ∈ lw_tbl := lw_t6 _ (List.mem_of_getElem? (i := 86) rfl)
set_option maxRecDepth 100000 in
theorem mz_530 : Cond.methodLink RX12 212 yX12_flag ∈ lw_tbl := lw_t6 _ (List.mem_of_getElem? (i := 87) rfl)
set_option maxRecDepth 100000 in
theorem mz_531 : Cond.static yX12_flag ∈ lw_tbl := lw_t6 _ (List.mem_of_getElem? (i := 88) rfl)
set_option maxRecDepth 100000 in
theorem mz_532 : Cond.code yX12_flag cX12_flag 1 (some .int) ∈ lw_tbl := lw_t6 _ (List.mem_of_getElem? (i := 89) rfl)
set_option maxRecDepth 100000 in
theorem mz_533 : Cond.methodLink RX12 219 yX12_cameFrom ∈ lw_tbl := lw_t6 _ (List.mem_of_getElem? (i := 90) rfl)
theorem hz_wsX12_bowl_r1 : ∀ w ∈ wsX12_bowl_r1, w ∈ lw_tbl := (List.forall_mem_cons.mpr ⟨mz_370, (List.forall_mem_cons.mpr ⟨mz_525, (List.forall_mem_cons.mpr ⟨mz_414, (List.forall_mem_cons.mpr ⟨mz_415, (List.forall_mem_cons.mpr ⟨mz_416, (List.forall_mem_cons.mpr ⟨mz_22, (List.forall_mem_cons.mpr ⟨mz_417, (List.forall_mem_cons.mpr ⟨mz_371, (List.forall_mem_cons.mpr ⟨mz_28, (List.forall_mem_cons.mpr ⟨mz_29, (List.forall_mem_cons.mpr ⟨mz_30, (List.forall_mem_cons.mpr ⟨mz_446, (List.forall_mem_cons.mpr ⟨mz_447, (List.forall_mem_cons.mpr ⟨mz_448, (List.forall_mem_cons.mpr ⟨mz_449, (List.forall_mem_cons.mpr ⟨mz_372, (List.forall_mem_cons.mpr ⟨mz_526, (List.forall_mem_cons.mpr ⟨mz_527, (List.forall_mem_cons.mpr ⟨mz_528, (List.forall_mem_cons.mpr ⟨mz_529, (List.forall_mem_cons.mpr ⟨mz_530, (List.forall_mem_cons.mpr ⟨mz_531, (List.forall_mem_cons.mpr ⟨mz_532, (List.forall_mem_cons.mpr ⟨mz_533, (fun _ h => absurd h List.not_mem_nil)⟩)⟩)⟩)⟩)⟩)⟩)⟩)⟩)⟩)⟩)⟩)⟩)⟩)⟩)⟩)⟩)⟩)⟩)⟩)⟩)⟩)⟩)⟩)⟩)
set_option maxRecDepth 100000 in
theorem mz_534 : Cond.instanceMethod yX12_cameFrom ∈ lw_tbl := lw_t6 _ (List.mem_of_getElem? (i := 92) rfl)
theorem mz_535 : Cond.selects RX12 yX12_cameFrom yX12_cameFrom ∈ lw_tbl := List.mem_of_getElem? (i := 55) (by decide +kernel)
set_option maxRecDepth 100000 in
theorem mz_536 : Cond.code yX12_cameFrom cX12_cameFrom 4 (some .int) ∈ lw_tbl := lw_t6 _ (List.mem_of_getElem? (i := 93) rfl)
theorem hz_wsX12_bowl_r2 : ∀ w ∈ wsX12_bowl_r2, w ∈ lw_tbl := (List.forall_mem_cons.mpr ⟨mz_534, (List.forall_mem_cons.mpr ⟨mz_535, (List.forall_mem_cons.mpr ⟨mz_536, (List.forall_mem_cons.mpr ⟨mz_374, (fun _ h => absurd h List.not_mem_nil)⟩)⟩)⟩)⟩)
theorem hz_wsX12_bowl : ∀ w ∈ wsX12_bowl, w ∈ lw_tbl := (List.forall_mem_cons.mpr ⟨mz_524, (List.forall_mem_append.mpr ⟨(List.forall_mem_append.mpr ⟨hz_wsX12_bowl_r1, hz_wsX12_bowl_r2⟩), hz_wsX120⟩)⟩)
set_option maxRecDepth 100000 in
theorem mz_537 : Cond.methodLink RL 72 yX12_bowl ∈ lw_tbl := lw_t6 _ (List.mem_of_getElem? (i := 79) rfl)
set_option maxRecDepth 100000 in
theorem mz_538 : Cond.instanceMethod yX12_bowl ∈ lw_tbl := lw_t6 _ (List.mem_of_getElem? (i := 80) rfl)
set_option maxRecDepth 100000 in
theorem mz_539 : Cond.selects RX12 yX12_bowl yX12_bowl ∈ lw_tbl := lw_t6 _ (List.mem_of_getElem? (i := 81) rfl)
set_option maxRecDepth 100000 in
theorem mz_540 : Cond.code yX11_ladle cX11_ladle 4 (some .int) ∈ lw_tbl := lw_t3 _ (List.mem_of_getElem? (i := 223) rfl)
theorem hz_wsX11_ladle_r1 : ∀ w ∈ wsX11_ladle_r1, w ∈ lw_tbl := (List.forall_mem_cons.mpr ⟨mz_38, (List.forall_mem_cons.mpr ⟨mz_489, (List.forall_mem_cons.mpr ⟨mz_406, (List.forall_mem_cons.mpr ⟨mz_407, (List.forall_mem_cons.mpr ⟨mz_408, (List.forall_mem_cons.mpr ⟨mz_65, (List.forall_mem_cons.mpr ⟨mz_409, (List.forall_mem_cons.mpr ⟨mz_67, (List.forall_mem_cons.mpr ⟨mz_434, (List.forall_mem_cons.mpr ⟨mz_435, (List.forall_mem_cons.mpr ⟨mz_436, (List.forall_mem_cons.mpr ⟨mz_437, (List.forall_mem_cons.mpr ⟨mz_68, (List.forall_mem_cons.mpr ⟨mz_490, (List.forall_mem_cons.mpr ⟨mz_491, (List.forall_mem_cons.mpr ⟨mz_492, (List.forall_mem_cons.mpr ⟨mz_493, (List.forall_mem_cons.mpr ⟨mz_494, (List.forall_mem_cons.mpr ⟨mz_495, (List.forall_mem_cons.mpr ⟨mz_496, (List.forall_mem_cons.mpr ⟨mz_497, (List.forall_mem_cons.mpr ⟨mz_498, (List.forall_mem_cons.mpr ⟨mz_499, (List.forall_mem_cons.mpr ⟨mz_500, (fun _ h => absurd h List.not_mem_nil)⟩)⟩)⟩)⟩)⟩)⟩)⟩)⟩)⟩)⟩)⟩)⟩)⟩)⟩)⟩)⟩)⟩)⟩)⟩)⟩)⟩)⟩)⟩)⟩)
set_option maxRecDepth 100000 in
theorem mz_541 : Cond.methodLink RX11 190 yX2_placeOf ∈ lw_tbl := lw_t3 _ (List.mem_of_getElem? (i := 224) rfl)
theorem hz_wsX11_ladle_r2 : ∀ w ∈ wsX11_ladle_r2, w ∈ lw_tbl := (List.forall_mem_cons.mpr ⟨mz_255, (List.forall_mem_cons.mpr ⟨mz_256, (List.forall_mem_cons.mpr ⟨mz_257, (List.forall_mem_cons.mpr ⟨mz_501, (List.forall_mem_cons.mpr ⟨mz_242, (List.forall_mem_cons.mpr ⟨mz_243, (List.forall_mem_cons.mpr ⟨mz_77, (List.forall_mem_cons.mpr ⟨mz_244, (List.forall_mem_cons.mpr ⟨mz_80, (List.forall_mem_cons.mpr ⟨mz_541, (List.forall_mem_cons.mpr ⟨mz_518, (List.forall_mem_cons.mpr ⟨mz_519, (List.forall_mem_cons.mpr ⟨mz_520, (fun _ h => absurd h List.not_mem_nil)⟩)⟩)⟩)⟩)⟩)⟩)⟩)⟩)⟩)⟩)⟩)⟩)⟩)
theorem hz_wsX11_ladle : ∀ w ∈ wsX11_ladle, w ∈ lw_tbl := (List.forall_mem_cons.mpr ⟨mz_540, (List.forall_mem_append.mpr ⟨(List.forall_mem_append.mpr ⟨(List.forall_mem_append.mpr ⟨(List.forall_mem_append.mpr ⟨(List.forall_mem_append.mpr ⟨hz_wsX11_ladle_r1, hz_wsX11_ladle_r2⟩), hz_wsX110⟩), hz_wsX60⟩), hz_wsX20⟩), hz_wsX80⟩)⟩)
set_option maxRecDepth 100000 in
theorem mz_542 : Cond.methodLink RL 73 yX11_ladle ∈ lw_tbl := lw_t3 _ (List.mem_of_getElem? (i := 220) rfl)
set_option maxRecDepth 100000 in
theorem mz_543 : Cond.instanceMethod yX11_ladle ∈ lw_tbl := lw_t3 _ (List.mem_of_getElem? (i := 221) rfl)
set_option maxRecDepth 100000 in
theorem mz_544 : Cond.selects RX11 yX11_ladle yX11_ladle ∈ lw_tbl := lw_t3 _ (List.mem_of_getElem? (i := 222) rfl)
set_option maxRecDepth 100000 in
theorem mz_545 : Cond.code yX12_ladle cX12_ladle 4 (some .int) ∈ lw_tbl := lw_t6 _ (List.mem_of_getElem? (i := 97) rfl)
theorem hz_wsX12_ladle : ∀ w ∈ wsX12_ladle, w ∈ lw_tbl := (List.forall_mem_cons.mpr ⟨mz_545, (List.forall_mem_append.mpr ⟨(List.forall_mem_cons.mpr ⟨mz_525, (List.forall_mem_cons.mpr ⟨mz_414, (List.forall_mem_cons.mpr ⟨mz_415, (List.forall_mem_cons.mpr ⟨mz_416, (List.forall_mem_cons.mpr ⟨mz_22, (List.forall_mem_cons.mpr ⟨mz_417, (List.forall_mem_cons.mpr ⟨mz_371, (List.forall_mem_cons.mpr ⟨mz_28, (List.forall_mem_cons.mpr ⟨mz_29, (List.forall_mem_cons.mpr ⟨mz_30, (List.forall_mem_cons.mpr ⟨mz_446, (List.forall_mem_cons.mpr ⟨mz_447, (List.forall_mem_cons.mpr ⟨mz_448, (List.forall_mem_cons.mpr ⟨mz_449, (List.forall_mem_cons.mpr ⟨mz_372, (List.forall_mem_cons.mpr ⟨mz_526, (List.forall_mem_cons.mpr ⟨mz_527, (List.forall_mem_cons.mpr ⟨mz_528, (List.forall_mem_cons.mpr ⟨mz_529, (List.forall_mem_cons.mpr ⟨mz_370, (List.forall_mem_cons.mpr ⟨mz_530, (List.forall_mem_cons.mpr ⟨mz_531, (List.forall_mem_cons.mpr ⟨mz_532, (fun _ h => absurd h List.not_mem_nil)⟩)⟩)⟩)⟩)⟩)⟩)⟩)⟩)⟩)⟩)⟩)⟩)⟩)⟩)⟩)⟩)⟩)⟩)⟩)⟩)⟩)⟩)⟩), hz_wsX120⟩)⟩)
set_option maxRecDepth 100000 in
theorem mz_546 : Cond.methodLink RL 76 yX12_ladle ∈ lw_tbl := lw_t6 _ (List.mem_of_getElem? (i := 94) rfl)
set_option maxRecDepth 100000 in
theorem mz_547 : Cond.instanceMethod yX12_ladle ∈ lw_tbl := lw_t6 _ (List.mem_of_getElem? (i := 95) rfl)
set_option maxRecDepth 100000 in
theorem mz_548 : Cond.selects RX12 yX12_ladle yX12_ladle ∈ lw_tbl := lw_t6 _ (List.mem_of_getElem? (i := 96) rfl)
set_option maxRecDepth 100000 in
theorem mz_549 : Cond.code yX11_next cX11_next 3 (some .int) ∈ lw_tbl := lw_t3 _ (List.mem_of_getElem? (i := 228) rfl)
theorem hz_wsX11_next_r1 : ∀ w ∈ wsX11_next_r1, w ∈ lw_tbl := (List.forall_mem_cons.mpr ⟨mz_38, (List.forall_mem_cons.mpr ⟨mz_489, (List.forall_mem_cons.mpr ⟨mz_40, (List.forall_mem_cons.mpr ⟨mz_396, (List.forall_mem_cons.mpr ⟨mz_406, (List.forall_mem_cons.mpr ⟨mz_407, (List.forall_mem_cons.mpr ⟨mz_408, (List.forall_mem_cons.mpr ⟨mz_65, (List.forall_mem_cons.mpr ⟨mz_409, (List.forall_mem_cons.mpr ⟨mz_67, (List.forall_mem_cons.mpr ⟨mz_434, (List.forall_mem_cons.mpr ⟨mz_435, (List.forall_mem_cons.mpr ⟨mz_436, (List.forall_mem_cons.mpr ⟨mz_437, (List.forall_mem_cons.mpr ⟨mz_68, (List.forall_mem_cons.mpr ⟨mz_490, (List.forall_mem_cons.mpr ⟨mz_491, (List.forall_mem_cons.mpr ⟨mz_492, (List.forall_mem_cons.mpr ⟨mz_493, (List.forall_mem_cons.mpr ⟨mz_494, (List.forall_mem_cons.mpr ⟨mz_495, (List.forall_mem_cons.mpr ⟨mz_496, (List.forall_mem_cons.mpr ⟨mz_497, (List.forall_mem_cons.mpr ⟨mz_498, (fun _ h => absurd h List.not_mem_nil)⟩)⟩)⟩)⟩)⟩)⟩)⟩)⟩)⟩)⟩)⟩)⟩)⟩)⟩)⟩)⟩)⟩)⟩)⟩)⟩)⟩)⟩)⟩)⟩)
set_option maxRecDepth 100000 in
theorem mz_550 : Cond.methodLink RX11 193 yX2_holderOf ∈ lw_tbl := lw_t3 _ (List.mem_of_getElem? (i := 229) rfl)
set_option maxRecDepth 100000 in
theorem mz_551 : Cond.instanceMethod yX2_holderOf ∈ lw_tbl := lw_t3 _ (List.mem_of_getElem? (i := 230) rfl)
set_option maxRecDepth 100000 in
theorem mz_552 : Cond.selects RX2 yX2_holderOf yX2_holderOf ∈ lw_tbl := lw_t3 _ (List.mem_of_getElem? (i := 231) rfl)
set_option maxRecDepth 100000 in
theorem mz_553 : Cond.code yX2_holderOf cX2_holderOf 3 (some .int) ∈ lw_tbl := lw_t3 _ (List.mem_of_getElem? (i := 232) rfl)
theorem hz_wsX11_next_r2 : ∀ w ∈ wsX11_next_r2, w ∈ lw_tbl := (List.forall_mem_cons.mpr ⟨mz_499, (List.forall_mem_cons.mpr ⟨mz_500, (List.forall_mem_cons.mpr ⟨mz_255, (List.forall_mem_cons.mpr ⟨mz_256, (List.forall_mem_cons.mpr ⟨mz_257, (List.forall_mem_cons.mpr ⟨mz_501, (List.forall_mem_cons.mpr ⟨mz_242, (List.forall_mem_cons.mpr ⟨mz_243, (List.forall_mem_cons.mpr ⟨mz_77, (List.forall_mem_cons.mpr ⟨mz_244, (List.forall_mem_cons.mpr ⟨mz_80, (List.forall_mem_cons.mpr ⟨mz_438, (List.forall_mem_cons.mpr ⟨mz_439, (List.forall_mem_cons.mpr ⟨mz_440, (List.forall_mem_cons.mpr ⟨mz_441, (List.forall_mem_cons.mpr ⟨mz_249, (List.forall_mem_cons.mpr ⟨mz_550, (List.forall_mem_cons.mpr ⟨mz_551, (List.forall_mem_cons.mpr ⟨mz_552, (List.forall_mem_cons.mpr ⟨mz_553, (fun _ h => absurd h List.not_mem_nil)⟩)⟩)⟩)⟩)⟩)⟩)⟩)⟩)⟩)⟩)⟩)⟩)⟩)⟩)⟩)⟩)⟩)⟩)⟩)⟩)
theorem hz_wsX11_next : ∀ w ∈ wsX11_next, w ∈ lw_tbl := (List.forall_mem_cons.mpr ⟨mz_549, (List.forall_mem_append.mpr ⟨(List.forall_mem_append.mpr ⟨(List.forall_mem_append.mpr ⟨(List.forall_mem_append.mpr ⟨(List.forall_mem_append.mpr ⟨hz_wsX11_next_r1, hz_wsX11_next_r2⟩), hz_wsX110⟩), hz_wsX80⟩), hz_wsX60⟩), hz_wsX20⟩)⟩)
set_option maxRecDepth 100000 in
theorem mz_554 : Cond.methodLink RL 77 yX11_next ∈ lw_tbl := lw_t3 _ (List.mem_of_getElem? (i := 225) rfl)
set_option maxRecDepth 100000 in
theorem mz_555 : Cond.instanceMethod yX11_next ∈ lw_tbl := lw_t3 _ (List.mem_of_getElem? (i := 226) rfl)
set_option maxRecDepth 100000 in
theorem mz_556 : Cond.selects RX11 yX11_next yX11_next ∈ lw_tbl := lw_t3 _ (List.mem_of_getElem? (i := 227) rfl)
set_option maxRecDepth 100000 in
theorem mz_557 : Cond.code yX12_next cX12_next 3 (some .int) ∈ lw_tbl := lw_t6 _ (List.mem_of_getElem? (i := 101) rfl)
set_option maxRecDepth 100000 in
theorem mz_558 : Cond.methodLink RX12 222 yX12_nextBy ∈ lw_tbl := lw_t6 _ (List.mem_of_getElem? (i := 102) rfl)
set_option maxRecDepth 100000 in
theorem mz_559 : Cond.instanceMethod yX12_nextBy ∈ lw_tbl := lw_t6 _ (List.mem_of_getElem? (i := 104) rfl)
theorem mz_560 : Cond.selects RX12 yX12_nextBy yX12_nextBy ∈ lw_tbl := List.mem_of_getElem? (i := 56) (by decide +kernel)
set_option maxRecDepth 100000 in
theorem mz_561 : Cond.code yX12_nextBy cX12_nextBy 5 (some .int) ∈ lw_tbl := lw_t6 _ (List.mem_of_getElem? (i := 105) rfl)
theorem hz_wsX12_next_r1 : ∀ w ∈ wsX12_next_r1, w ∈ lw_tbl := (List.forall_mem_cons.mpr ⟨mz_370, (List.forall_mem_cons.mpr ⟨mz_414, (List.forall_mem_cons.mpr ⟨mz_415, (List.forall_mem_cons.mpr ⟨mz_416, (List.forall_mem_cons.mpr ⟨mz_22, (List.forall_mem_cons.mpr ⟨mz_417, (List.forall_mem_cons.mpr ⟨mz_371, (List.forall_mem_cons.mpr ⟨mz_28, (List.forall_mem_cons.mpr ⟨mz_29, (List.forall_mem_cons.mpr ⟨mz_30, (List.forall_mem_cons.mpr ⟨mz_446, (List.forall_mem_cons.mpr ⟨mz_447, (List.forall_mem_cons.mpr ⟨mz_448, (List.forall_mem_cons.mpr ⟨mz_449, (List.forall_mem_cons.mpr ⟨mz_372, (List.forall_mem_cons.mpr ⟨mz_558, (List.forall_mem_cons.mpr ⟨mz_559, (List.forall_mem_cons.mpr ⟨mz_560, (List.forall_mem_cons.mpr ⟨mz_561, (List.forall_mem_cons.mpr ⟨mz_525, (List.forall_mem_cons.mpr ⟨mz_374, (List.forall_mem_cons.mpr ⟨mz_526, (List.forall_mem_cons.mpr ⟨mz_527, (List.forall_mem_cons.mpr ⟨mz_528, (fun _ h => absurd h List.not_mem_nil)⟩)⟩)⟩)⟩)⟩)⟩)⟩)⟩)⟩)⟩)⟩)⟩)⟩)⟩)⟩)⟩)⟩)⟩)⟩)⟩)⟩)⟩)⟩)⟩)
theorem hz_wsX12_next_r2 : ∀ w ∈ wsX12_next_r2, w ∈ lw_tbl := (List.forall_mem_cons.mpr ⟨mz_529, (List.forall_mem_cons.mpr ⟨mz_530, (List.forall_mem_cons.mpr ⟨mz_531, (List.forall_mem_cons.mpr ⟨mz_532, (fun _ h => absurd h List.not_mem_nil)⟩)⟩)⟩)⟩)
theorem hz_wsX12_next : ∀ w ∈ wsX12_next, w ∈ lw_tbl := (List.forall_mem_cons.mpr ⟨mz_557, (List.forall_mem_append.mpr ⟨(List.forall_mem_append.mpr ⟨hz_wsX12_next_r1, hz_wsX12_next_r2⟩), hz_wsX120⟩)⟩)
set_option maxRecDepth 100000 in
theorem mz_562 : Cond.methodLink RL 80 yX12_next ∈ lw_tbl := lw_t6 _ (List.mem_of_getElem? (i := 98) rfl)
set_option maxRecDepth 100000 in
theorem mz_563 : Cond.instanceMethod yX12_next ∈ lw_tbl := lw_t6 _ (List.mem_of_getElem? (i := 99) rfl)
set_option maxRecDepth 100000 in
theorem mz_564 : Cond.selects RX12 yX12_next yX12_next ∈ lw_tbl := lw_t6 _ (List.mem_of_getElem? (i := 100) rfl)
set_option maxRecDepth 100000 in
theorem mz_565 : Cond.code yX11_day cX11_day 2 (some .int) ∈ lw_tbl := lw_t3 _ (List.mem_of_getElem? (i := 236) rfl)
set_option maxRecDepth 100000 in
theorem mz_566 : Cond.methodLink RX11 196 yX2_passDay ∈ lw_tbl := lw_t3 _ (List.mem_of_getElem? (i := 237) rfl)
set_option maxRecDepth 100000 in
theorem mz_567 : Cond.instanceMethod yX2_passDay ∈ lw_tbl := lw_t3 _ (List.mem_of_getElem? (i := 238) rfl)
set_option maxRecDepth 100000 in
theorem mz_568 : Cond.selects RX2 yX2_passDay yX2_passDay ∈ lw_tbl := lw_t3 _ (List.mem_of_getElem? (i := 239) rfl)
set_option maxRecDepth 100000 in
theorem mz_569 : Cond.code yX2_passDay cX2_passDay 4 none ∈ lw_tbl := lw_t4 _ (List.mem_of_getElem? (i := 0) rfl)
set_option maxRecDepth 100000 in
theorem mz_570 : Cond.fieldLink RX2 60 "LadleKings$State" "king" "I" ∈ lw_tbl := lw_t1 _ (List.mem_of_getElem? (i := 117) rfl)
set_option maxRecDepth 100000 in
theorem mz_571 : Cond.methodLink RX2 66 arraycopyName ∈ lw_tbl := lw_t4 _ (List.mem_of_getElem? (i := 3) rfl)
theorem hz_wsX11_day_r1 : ∀ w ∈ wsX11_day_r1, w ∈ lw_tbl := (List.forall_mem_cons.mpr ⟨mz_38, (List.forall_mem_cons.mpr ⟨mz_40, (List.forall_mem_cons.mpr ⟨mz_395, (List.forall_mem_cons.mpr ⟨mz_489, (List.forall_mem_cons.mpr ⟨mz_394, (List.forall_mem_cons.mpr ⟨mz_434, (List.forall_mem_cons.mpr ⟨mz_435, (List.forall_mem_cons.mpr ⟨mz_436, (List.forall_mem_cons.mpr ⟨mz_65, (List.forall_mem_cons.mpr ⟨mz_437, (List.forall_mem_cons.mpr ⟨mz_68, (List.forall_mem_cons.mpr ⟨mz_566, (List.forall_mem_cons.mpr ⟨mz_567, (List.forall_mem_cons.mpr ⟨mz_568, (List.forall_mem_cons.mpr ⟨mz_493, (List.forall_mem_cons.mpr ⟨mz_569, (List.forall_mem_cons.mpr ⟨mz_497, (List.forall_mem_cons.mpr ⟨mz_570, (List.forall_mem_cons.mpr ⟨mz_507, (List.forall_mem_cons.mpr ⟨mz_506, (List.forall_mem_cons.mpr ⟨mz_495, (List.forall_mem_cons.mpr ⟨mz_496, (List.forall_mem_cons.mpr ⟨mz_571, (List.forall_mem_cons.mpr ⟨mz_199, (fun _ h => absurd h List.not_mem_nil)⟩)⟩)⟩)⟩)⟩)⟩)⟩)⟩)⟩)⟩)⟩)⟩)⟩)⟩)⟩)⟩)⟩)⟩)⟩)⟩)⟩)⟩)⟩)⟩)
set_option maxRecDepth 100000 in
theorem mz_572 : Cond.fieldLink RX2 72 "LadleKings$State" "bone" "I" ∈ lw_tbl := lw_t1 _ (List.mem_of_getElem? (i := 109) rfl)
set_option maxRecDepth 100000 in
theorem mz_573 : Cond.fieldLink RX2 78 "LadleKings$State" "eaten" "[I" ∈ lw_tbl := lw_t1 _ (List.mem_of_getElem? (i := 96) rfl)
set_option maxRecDepth 100000 in
theorem mz_574 : Cond.fieldLink RX2 87 "LadleKings$State" "days" "I" ∈ lw_tbl := lw_t1 _ (List.mem_of_getElem? (i := 121) rfl)
set_option maxRecDepth 100000 in
theorem mz_575 : Cond.methodLink RX2 45 yX2_serve ∈ lw_tbl := lw_t4 _ (List.mem_of_getElem? (i := 1) rfl)
set_option maxRecDepth 100000 in
theorem mz_576 : Cond.methodLink RX2 63 yX2_stirPot ∈ lw_tbl := lw_t4 _ (List.mem_of_getElem? (i := 2) rfl)
theorem hz_wsX11_day_r2 : ∀ w ∈ wsX11_day_r2, w ∈ lw_tbl := (List.forall_mem_cons.mpr ⟨mz_200, (List.forall_mem_cons.mpr ⟨mz_201, (List.forall_mem_cons.mpr ⟨mz_572, (List.forall_mem_cons.mpr ⟨mz_573, (List.forall_mem_cons.mpr ⟨mz_574, (List.forall_mem_cons.mpr ⟨mz_575, (List.forall_mem_cons.mpr ⟨mz_491, (List.forall_mem_cons.mpr ⟨mz_492, (List.forall_mem_cons.mpr ⟨mz_494, (List.forall_mem_cons.mpr ⟨mz_498, (List.forall_mem_cons.mpr ⟨mz_499, (List.forall_mem_cons.mpr ⟨mz_500, (List.forall_mem_cons.mpr ⟨mz_255, (List.forall_mem_cons.mpr ⟨mz_256, (List.forall_mem_cons.mpr ⟨mz_257, (List.forall_mem_cons.mpr ⟨mz_67, (List.forall_mem_cons.mpr ⟨mz_501, (List.forall_mem_cons.mpr ⟨mz_242, (List.forall_mem_cons.mpr ⟨mz_243, (List.forall_mem_cons.mpr ⟨mz_77, (List.forall_mem_cons.mpr ⟨mz_244, (List.forall_mem_cons.mpr ⟨mz_80, (List.forall_mem_cons.mpr ⟨mz_576, (List.forall_mem_cons.mpr ⟨mz_503, (fun _ h => absurd h List.not_mem_nil)⟩)⟩)⟩)⟩)⟩)⟩)⟩)⟩)⟩)⟩)⟩)⟩)⟩)⟩)⟩)⟩)⟩)⟩)⟩)⟩)⟩)⟩)⟩)⟩)
set_option maxRecDepth 100000 in
theorem mz_577 : Cond.methodLink RX2 75 yX6_placeAfter ∈ lw_tbl := lw_t4 _ (List.mem_of_getElem? (i := 4) rfl)
set_option maxRecDepth 100000 in
theorem mz_578 : Cond.methodLink RX2 81 yX2_bowlOf ∈ lw_tbl := lw_t4 _ (List.mem_of_getElem? (i := 5) rfl)
set_option maxRecDepth 100000 in
theorem mz_579 : Cond.methodLink RX2 84 yX2_holderOf ∈ lw_tbl := lw_t4 _ (List.mem_of_getElem? (i := 6) rfl)
theorem hz_wsX11_day_r3 : ∀ w ∈ wsX11_day_r3, w ∈ lw_tbl := (List.forall_mem_cons.mpr ⟨mz_504, (List.forall_mem_cons.mpr ⟨mz_505, (List.forall_mem_cons.mpr ⟨mz_508, (List.forall_mem_cons.mpr ⟨mz_509, (List.forall_mem_cons.mpr ⟨mz_510, (List.forall_mem_cons.mpr ⟨mz_511, (List.forall_mem_cons.mpr ⟨mz_512, (List.forall_mem_cons.mpr ⟨mz_439, (List.forall_mem_cons.mpr ⟨mz_440, (List.forall_mem_cons.mpr ⟨mz_441, (List.forall_mem_cons.mpr ⟨mz_249, (List.forall_mem_cons.mpr ⟨mz_577, (List.forall_mem_cons.mpr ⟨mz_578, (List.forall_mem_cons.mpr ⟨mz_514, (List.forall_mem_cons.mpr ⟨mz_515, (List.forall_mem_cons.mpr ⟨mz_516, (List.forall_mem_cons.mpr ⟨mz_517, (List.forall_mem_cons.mpr ⟨mz_518, (List.forall_mem_cons.mpr ⟨mz_519, (List.forall_mem_cons.mpr ⟨mz_520, (List.forall_mem_cons.mpr ⟨mz_579, (List.forall_mem_cons.mpr ⟨mz_551, (List.forall_mem_cons.mpr ⟨mz_552, (List.forall_mem_cons.mpr ⟨mz_553, (fun _ h => absurd h List.not_mem_nil)⟩)⟩)⟩)⟩)⟩)⟩)⟩)⟩)⟩)⟩)⟩)⟩)⟩)⟩)⟩)⟩)⟩)⟩)⟩)⟩)⟩)⟩)⟩)⟩)
theorem hz_wsX11_day : ∀ w ∈ wsX11_day, w ∈ lw_tbl := (List.forall_mem_cons.mpr ⟨mz_565, (List.forall_mem_append.mpr ⟨(List.forall_mem_append.mpr ⟨(List.forall_mem_append.mpr ⟨(List.forall_mem_append.mpr ⟨(List.forall_mem_append.mpr ⟨hz_wsX11_day_r1, (List.forall_mem_append.mpr ⟨hz_wsX11_day_r2, hz_wsX11_day_r3⟩)⟩), hz_wsX110⟩), hz_wsX80⟩), hz_wsX60⟩), hz_wsX20⟩)⟩)
set_option maxRecDepth 100000 in
theorem mz_580 : Cond.methodLink RL 81 yX11_day ∈ lw_tbl := lw_t3 _ (List.mem_of_getElem? (i := 233) rfl)
set_option maxRecDepth 100000 in
theorem mz_581 : Cond.instanceMethod yX11_day ∈ lw_tbl := lw_t3 _ (List.mem_of_getElem? (i := 234) rfl)
set_option maxRecDepth 100000 in
theorem mz_582 : Cond.selects RX11 yX11_day yX11_day ∈ lw_tbl := lw_t3 _ (List.mem_of_getElem? (i := 235) rfl)
set_option maxRecDepth 100000 in
theorem mz_583 : Cond.code yX12_day cX12_day 2 (some .int) ∈ lw_tbl := lw_t6 _ (List.mem_of_getElem? (i := 109) rfl)
set_option maxRecDepth 100000 in
theorem mz_584 : Cond.methodLink RX12 226 yX12_goesDay ∈ lw_tbl := lw_t6 _ (List.mem_of_getElem? (i := 110) rfl)
set_option maxRecDepth 100000 in
theorem mz_585 : Cond.instanceMethod yX12_goesDay ∈ lw_tbl := lw_t6 _ (List.mem_of_getElem? (i := 112) rfl)
theorem mz_586 : Cond.selects RX12 yX12_goesDay yX12_goesDay ∈ lw_tbl := List.mem_of_getElem? (i := 57) (by decide +kernel)
set_option maxRecDepth 100000 in
theorem mz_587 : Cond.code yX12_goesDay cX12_goesDay 4 none ∈ lw_tbl := lw_t6 _ (List.mem_of_getElem? (i := 113) rfl)
set_option maxRecDepth 100000 in
theorem mz_588 : Cond.fieldLink RX12 38 "LadleKingsModel" "stirred" "[I" ∈ lw_tbl := lw_t5 _ (List.mem_of_getElem? (i := 98) rfl)
theorem hz_wsX12_day_r1 : ∀ w ∈ wsX12_day_r1, w ∈ lw_tbl := (List.forall_mem_cons.mpr ⟨mz_370, (List.forall_mem_cons.mpr ⟨mz_446, (List.forall_mem_cons.mpr ⟨mz_447, (List.forall_mem_cons.mpr ⟨mz_448, (List.forall_mem_cons.mpr ⟨mz_22, (List.forall_mem_cons.mpr ⟨mz_449, (List.forall_mem_cons.mpr ⟨mz_372, (List.forall_mem_cons.mpr ⟨mz_28, (List.forall_mem_cons.mpr ⟨mz_29, (List.forall_mem_cons.mpr ⟨mz_30, (List.forall_mem_cons.mpr ⟨mz_584, (List.forall_mem_cons.mpr ⟨mz_585, (List.forall_mem_cons.mpr ⟨mz_586, (List.forall_mem_cons.mpr ⟨mz_587, (List.forall_mem_cons.mpr ⟨mz_371, (List.forall_mem_cons.mpr ⟨mz_588, (List.forall_mem_cons.mpr ⟨mz_374, (List.forall_mem_cons.mpr ⟨mz_525, (List.forall_mem_cons.mpr ⟨mz_558, (List.forall_mem_cons.mpr ⟨mz_559, (List.forall_mem_cons.mpr ⟨mz_560, (List.forall_mem_cons.mpr ⟨mz_561, (List.forall_mem_cons.mpr ⟨mz_526, (List.forall_mem_cons.mpr ⟨mz_527, (fun _ h => absurd h List.not_mem_nil)⟩)⟩)⟩)⟩)⟩)⟩)⟩)⟩)⟩)⟩)⟩)⟩)⟩)⟩)⟩)⟩)⟩)⟩)⟩)⟩)⟩)⟩)⟩)⟩)
theorem hz_wsX12_day_r2 : ∀ w ∈ wsX12_day_r2, w ∈ lw_tbl := (List.forall_mem_cons.mpr ⟨mz_528, (List.forall_mem_cons.mpr ⟨mz_529, (List.forall_mem_cons.mpr ⟨mz_530, (List.forall_mem_cons.mpr ⟨mz_531, (List.forall_mem_cons.mpr ⟨mz_532, (fun _ h => absurd h List.not_mem_nil)⟩)⟩)⟩)⟩)⟩)
theorem hz_wsX12_day : ∀ w ∈ wsX12_day, w ∈ lw_tbl := (List.forall_mem_cons.mpr ⟨mz_583, (List.forall_mem_append.mpr ⟨(List.forall_mem_append.mpr ⟨hz_wsX12_day_r1, hz_wsX12_day_r2⟩), hz_wsX120⟩)⟩)
set_option maxRecDepth 100000 in
theorem mz_589 : Cond.methodLink RL 84 yX12_day ∈ lw_tbl := lw_t6 _ (List.mem_of_getElem? (i := 106) rfl)
set_option maxRecDepth 100000 in
theorem mz_590 : Cond.instanceMethod yX12_day ∈ lw_tbl := lw_t6 _ (List.mem_of_getElem? (i := 107) rfl)
set_option maxRecDepth 100000 in
theorem mz_591 : Cond.selects RX12 yX12_day yX12_day ∈ lw_tbl := lw_t6 _ (List.mem_of_getElem? (i := 108) rfl)
set_option maxRecDepth 100000 in
theorem mz_592 : Cond.code yX11_hungry cX11_hungry 3 (some .int) ∈ lw_tbl := lw_t4 _ (List.mem_of_getElem? (i := 10) rfl)
theorem hz_wsX11_hungry : ∀ w ∈ wsX11_hungry, w ∈ lw_tbl := (List.forall_mem_cons.mpr ⟨mz_592, (List.forall_mem_append.mpr ⟨(List.forall_mem_append.mpr ⟨(List.forall_mem_append.mpr ⟨(List.forall_mem_cons.mpr ⟨mz_38, (List.forall_mem_cons.mpr ⟨mz_392, (List.forall_mem_cons.mpr ⟨mz_40, (List.forall_mem_cons.mpr ⟨mz_425, (List.forall_mem_cons.mpr ⟨mz_424, (List.forall_mem_cons.mpr ⟨mz_395, (fun _ h => absurd h List.not_mem_nil)⟩)⟩)⟩)⟩)⟩)⟩), hz_wsX110⟩), hz_wsX60⟩), hz_wsX80⟩)⟩)
set_option maxRecDepth 100000 in
theorem mz_593 : Cond.methodLink RL 85 yX11_hungry ∈ lw_tbl := lw_t4 _ (List.mem_of_getElem? (i := 7) rfl)
set_option maxRecDepth 100000 in
theorem mz_594 : Cond.instanceMethod yX11_hungry ∈ lw_tbl := lw_t4 _ (List.mem_of_getElem? (i := 8) rfl)
set_option maxRecDepth 100000 in
theorem mz_595 : Cond.selects RX11 yX11_hungry yX11_hungry ∈ lw_tbl := lw_t4 _ (List.mem_of_getElem? (i := 9) rfl)
set_option maxRecDepth 100000 in
theorem mz_596 : Cond.code yX12_hungry cX12_hungry 3 (some .int) ∈ lw_tbl := lw_t6 _ (List.mem_of_getElem? (i := 117) rfl)
theorem hz_wsX12_hungry : ∀ w ∈ wsX12_hungry, w ∈ lw_tbl := (List.forall_mem_cons.mpr ⟨mz_596, (List.forall_mem_append.mpr ⟨(List.forall_mem_cons.mpr ⟨mz_371, (List.forall_mem_cons.mpr ⟨mz_370, (List.forall_mem_cons.mpr ⟨mz_373, (List.forall_mem_cons.mpr ⟨mz_530, (List.forall_mem_cons.mpr ⟨mz_531, (List.forall_mem_cons.mpr ⟨mz_22, (List.forall_mem_cons.mpr ⟨mz_532, (fun _ h => absurd h List.not_mem_nil)⟩)⟩)⟩)⟩)⟩)⟩)⟩), hz_wsX120⟩)⟩)
set_option maxRecDepth 100000 in
theorem mz_597 : Cond.methodLink RL 88 yX12_hungry ∈ lw_tbl := lw_t6 _ (List.mem_of_getElem? (i := 114) rfl)
set_option maxRecDepth 100000 in
theorem mz_598 : Cond.instanceMethod yX12_hungry ∈ lw_tbl := lw_t6 _ (List.mem_of_getElem? (i := 115) rfl)
set_option maxRecDepth 100000 in
theorem mz_599 : Cond.selects RX12 yX12_hungry yX12_hungry ∈ lw_tbl := lw_t6 _ (List.mem_of_getElem? (i := 116) rfl)
set_option maxRecDepth 100000 in
theorem mz_600 : Cond.code yX11_chance cX11_chance 4 (some .long) ∈ lw_tbl := lw_t4 _ (List.mem_of_getElem? (i := 14) rfl)
set_option maxRecDepth 100000 in
theorem mz_601 : Cond.constantLong RX11 202 (-1) ∈ lw_tbl := lw_t4 _ (List.mem_of_getElem? (i := 18) rfl)
set_option maxRecDepth 100000 in
theorem mz_602 : Cond.constantLong RX11 204 (-2) ∈ lw_tbl := lw_t4 _ (List.mem_of_getElem? (i := 19) rfl)
set_option maxRecDepth 100000 in
theorem mz_603 : Cond.fieldLink RX11 53 "LadleKings" "luck" "LLadleKings$Luck;" ∈ lw_tbl := lw_t2 _ (List.mem_of_getElem? (i := 127) rfl)
set_option maxRecDepth 100000 in
theorem mz_604 : Cond.methodLink RX11 199 yX11_isPart ∈ lw_tbl := lw_t4 _ (List.mem_of_getElem? (i := 15) rfl)
set_option maxRecDepth 100000 in
theorem mz_605 : Cond.static yX11_isPart ∈ lw_tbl := lw_t4 _ (List.mem_of_getElem? (i := 16) rfl)
set_option maxRecDepth 100000 in
theorem mz_606 : Cond.code yX11_isPart cX11_isPart 1 (some .boolean) ∈ lw_tbl := lw_t4 _ (List.mem_of_getElem? (i := 17) rfl)
set_option maxRecDepth 100000 in
theorem mz_607 : Cond.methodLink RX11 206 yX3_rowsToCrown ∈ lw_tbl := lw_t4 _ (List.mem_of_getElem? (i := 20) rfl)
set_option maxRecDepth 100000 in
theorem mz_608 : Cond.instanceMethod yX3_rowsToCrown ∈ lw_tbl := lw_t4 _ (List.mem_of_getElem? (i := 21) rfl)
set_option maxRecDepth 100000 in
theorem mz_609 : Cond.selects RX3 yX3_rowsToCrown yX3_rowsToCrown ∈ lw_tbl := lw_t4 _ (List.mem_of_getElem? (i := 22) rfl)
set_option maxRecDepth 100000 in
theorem mz_610 : Cond.initialized RX3 ∈ lw_tbl := lw_t1 _ (List.mem_of_getElem? (i := 8) rfl)
set_option maxRecDepth 100000 in
theorem mz_611 : Cond.code yX3_rowsToCrown cX3_rowsToCrown 4 (some .long) ∈ lw_tbl := lw_t4 _ (List.mem_of_getElem? (i := 23) rfl)
set_option maxRecDepth 100000 in
theorem mz_612 : Cond.methodLink RX3 25 yX3_begin ∈ lw_tbl := lw_t4 _ (List.mem_of_getElem? (i := 24) rfl)
set_option maxRecDepth 100000 in
theorem mz_613 : Cond.instanceMethod yX3_begin ∈ lw_tbl := lw_t4 _ (List.mem_of_getElem? (i := 26) rfl)
theorem mz_614 : Cond.selects RX3 yX3_begin yX3_begin ∈ lw_tbl := List.mem_of_getElem? (i := 13) (by decide +kernel)
set_option maxRecDepth 100000 in
theorem mz_615 : Cond.code yX3_begin cX3_begin 1 none ∈ lw_tbl := lw_t4 _ (List.mem_of_getElem? (i := 27) rfl)
theorem hz_wsX11_chance_r1 : ∀ w ∈ wsX11_chance_r1, w ∈ lw_tbl := (List.forall_mem_cons.mpr ⟨mz_38, (List.forall_mem_cons.mpr ⟨mz_601, (List.forall_mem_cons.mpr ⟨mz_393, (List.forall_mem_cons.mpr ⟨mz_602, (List.forall_mem_cons.mpr ⟨mz_603, (List.forall_mem_cons.mpr ⟨mz_406, (List.forall_mem_cons.mpr ⟨mz_407, (List.forall_mem_cons.mpr ⟨mz_408, (List.forall_mem_cons.mpr ⟨mz_65, (List.forall_mem_cons.mpr ⟨mz_409, (List.forall_mem_cons.mpr ⟨mz_67, (List.forall_mem_cons.mpr ⟨mz_604, (List.forall_mem_cons.mpr ⟨mz_605, (List.forall_mem_cons.mpr ⟨mz_14, (List.forall_mem_cons.mpr ⟨mz_606, (List.forall_mem_cons.mpr ⟨mz_607, (List.forall_mem_cons.mpr ⟨mz_608, (List.forall_mem_cons.mpr ⟨mz_609, (List.forall_mem_cons.mpr ⟨mz_610, (List.forall_mem_cons.mpr ⟨mz_611, (List.forall_mem_cons.mpr ⟨mz_612, (List.forall_mem_cons.mpr ⟨mz_613, (List.forall_mem_cons.mpr ⟨mz_614, (List.forall_mem_cons.mpr ⟨mz_615, (fun _ h => absurd h List.not_mem_nil)⟩)⟩)⟩)⟩)⟩)⟩)⟩)⟩)⟩)⟩)⟩)⟩)⟩)⟩)⟩)⟩)⟩)⟩)⟩)⟩)⟩)⟩)⟩)⟩)
set_option maxRecDepth 100000 in
theorem mz_616 : Cond.fieldLink RX3 21 "LadleKings$Luck" "kitchen" "LLadleKings$Kitchen;" ∈ lw_tbl := lw_t2 _ (List.mem_of_getElem? (i := 11) rfl)
set_option maxRecDepth 100000 in
theorem mz_617 : Cond.fieldLink RX3 11 "LadleKings$Luck" "rows" "[J" ∈ lw_tbl := lw_t2 _ (List.mem_of_getElem? (i := 12) rfl)
set_option maxRecDepth 100000 in
theorem mz_618 : Cond.fieldLink RX3 36 "LadleKings$Kitchen" "state" "LLadleKings$State;" ∈ lw_tbl := lw_t1 _ (List.mem_of_getElem? (i := 228) rfl)
set_option maxRecDepth 100000 in
theorem mz_619 : Cond.fieldLink RX3 42 "LadleKings$State" "king" "I" ∈ lw_tbl := lw_t1 _ (List.mem_of_getElem? (i := 113) rfl)
set_option maxRecDepth 100000 in
theorem mz_620 : Cond.fieldLink RX3 57 "LadleKings$State" "bone" "I" ∈ lw_tbl := lw_t1 _ (List.mem_of_getElem? (i := 106) rfl)
set_option maxRecDepth 100000 in
theorem mz_621 : Cond.methodLink RX3 48 yX2_serveAllKings ∈ lw_tbl := lw_t4 _ (List.mem_of_getElem? (i := 28) rfl)
set_option maxRecDepth 100000 in
theorem mz_622 : Cond.instanceMethod yX2_serveAllKings ∈ lw_tbl := lw_t4 _ (List.mem_of_getElem? (i := 29) rfl)
set_option maxRecDepth 100000 in
theorem mz_623 : Cond.selects RX2 yX2_serveAllKings yX2_serveAllKings ∈ lw_tbl := lw_t4 _ (List.mem_of_getElem? (i := 30) rfl)
set_option maxRecDepth 100000 in
theorem mz_624 : Cond.code yX2_serveAllKings cX2_serveAllKings 2 none ∈ lw_tbl := lw_t4 _ (List.mem_of_getElem? (i := 31) rfl)
theorem hz_wsX11_chance_r2 : ∀ w ∈ wsX11_chance_r2, w ∈ lw_tbl := (List.forall_mem_cons.mpr ⟨mz_616, (List.forall_mem_cons.mpr ⟨mz_617, (List.forall_mem_cons.mpr ⟨mz_618, (List.forall_mem_cons.mpr ⟨mz_619, (List.forall_mem_cons.mpr ⟨mz_620, (List.forall_mem_cons.mpr ⟨mz_621, (List.forall_mem_cons.mpr ⟨mz_622, (List.forall_mem_cons.mpr ⟨mz_623, (List.forall_mem_cons.mpr ⟨mz_493, (List.forall_mem_cons.mpr ⟨mz_624, (List.forall_mem_cons.mpr ⟨mz_495, (List.forall_mem_cons.mpr ⟨mz_496, (List.forall_mem_cons.mpr ⟨mz_575, (List.forall_mem_cons.mpr ⟨mz_491, (List.forall_mem_cons.mpr ⟨mz_492, (List.forall_mem_cons.mpr ⟨mz_494, (List.forall_mem_cons.mpr ⟨mz_497, (List.forall_mem_cons.mpr ⟨mz_498, (List.forall_mem_cons.mpr ⟨mz_499, (List.forall_mem_cons.mpr ⟨mz_500, (List.forall_mem_cons.mpr ⟨mz_255, (List.forall_mem_cons.mpr ⟨mz_256, (List.forall_mem_cons.mpr ⟨mz_257, (List.forall_mem_cons.mpr ⟨mz_501, (fun _ h => absurd h List.not_mem_nil)⟩)⟩)⟩)⟩)⟩)⟩)⟩)⟩)⟩)⟩)⟩)⟩)⟩)⟩)⟩)⟩)⟩)⟩)⟩)⟩)⟩)⟩)⟩)⟩)
set_option maxRecDepth 100000 in
theorem mz_625 : Cond.methodLink RX3 51 yJ7_fill_d0a16 ∈ lw_tbl := lw_t4 _ (List.mem_of_getElem? (i := 32) rfl)
set_option maxRecDepth 100000 in
theorem mz_626 : Cond.static yJ7_fill_d0a16 ∈ lw_tbl := lw_t4 _ (List.mem_of_getElem? (i := 33) rfl)
set_option maxRecDepth 100000 in
theorem mz_627 : Cond.code yJ7_fill_d0a16 cJ7_fill_d0a16 5 none ∈ lw_tbl := lw_t4 _ (List.mem_of_getElem? (i := 34) rfl)
set_option maxRecDepth 100000 in
theorem mz_628 : Cond.methodLink RX3 28 yX3_goOn ∈ lw_tbl := lw_t4 _ (List.mem_of_getElem? (i := 35) rfl)
set_option maxRecDepth 100000 in
theorem mz_629 : Cond.instanceMethod yX3_goOn ∈ lw_tbl := lw_t4 _ (List.mem_of_getElem? (i := 37) rfl)
theorem mz_630 : Cond.selects RX3 yX3_goOn yX3_goOn ∈ lw_tbl := List.mem_of_getElem? (i := 14) (by decide +kernel)
set_option maxRecDepth 100000 in
theorem mz_631 : Cond.code yX3_goOn cX3_goOn 4 none ∈ lw_tbl := lw_t4 _ (List.mem_of_getElem? (i := 38) rfl)
set_option maxRecDepth 100000 in
theorem mz_632 : Cond.fieldLink RX3 15 "LadleKings$Luck" "later" "[J" ∈ lw_tbl := lw_t2 _ (List.mem_of_getElem? (i := 13) rfl)
set_option maxRecDepth 100000 in
theorem mz_633 : Cond.fieldLink RX3 60 "LadleKings$Kitchen" "rules" "LLadleKings$Rules;" ∈ lw_tbl := lw_t1 _ (List.mem_of_getElem? (i := 224) rfl)
set_option maxRecDepth 100000 in
theorem mz_634 : Cond.fieldLink RX3 64 "LadleKings$Rules" "seats" "I" ∈ lw_tbl := lw_t1 _ (List.mem_of_getElem? (i := 42) rfl)
set_option maxRecDepth 100000 in
theorem mz_635 : Cond.methodLink RX3 73 arraycopyName ∈ lw_tbl := lw_t4 _ (List.mem_of_getElem? (i := 45) rfl)
set_option maxRecDepth 100000 in
theorem mz_636 : Cond.methodLink RX3 69 yX3_goOnFrom ∈ lw_tbl := lw_t4 _ (List.mem_of_getElem? (i := 39) rfl)
set_option maxRecDepth 100000 in
theorem mz_637 : Cond.instanceMethod yX3_goOnFrom ∈ lw_tbl := lw_t4 _ (List.mem_of_getElem? (i := 41) rfl)
theorem mz_638 : Cond.selects RX3 yX3_goOnFrom yX3_goOnFrom ∈ lw_tbl := List.mem_of_getElem? (i := 15) (by decide +kernel)
set_option maxRecDepth 100000 in
theorem mz_639 : Cond.code yX3_goOnFrom cX3_goOnFrom 7 none ∈ lw_tbl := lw_t4 _ (List.mem_of_getElem? (i := 42) rfl)
theorem hz_wsX11_chance_r3 : ∀ w ∈ wsX11_chance_r3, w ∈ lw_tbl := (List.forall_mem_cons.mpr ⟨mz_242, (List.forall_mem_cons.mpr ⟨mz_243, (List.forall_mem_cons.mpr ⟨mz_77, (List.forall_mem_cons.mpr ⟨mz_244, (List.forall_mem_cons.mpr ⟨mz_80, (List.forall_mem_cons.mpr ⟨mz_625, (List.forall_mem_cons.mpr ⟨mz_626, (List.forall_mem_cons.mpr ⟨mz_72, (List.forall_mem_cons.mpr ⟨mz_627, (List.forall_mem_cons.mpr ⟨mz_628, (List.forall_mem_cons.mpr ⟨mz_629, (List.forall_mem_cons.mpr ⟨mz_630, (List.forall_mem_cons.mpr ⟨mz_631, (List.forall_mem_cons.mpr ⟨mz_632, (List.forall_mem_cons.mpr ⟨mz_633, (List.forall_mem_cons.mpr ⟨mz_634, (List.forall_mem_cons.mpr ⟨mz_635, (List.forall_mem_cons.mpr ⟨mz_199, (List.forall_mem_cons.mpr ⟨mz_200, (List.forall_mem_cons.mpr ⟨mz_201, (List.forall_mem_cons.mpr ⟨mz_636, (List.forall_mem_cons.mpr ⟨mz_637, (List.forall_mem_cons.mpr ⟨mz_638, (List.forall_mem_cons.mpr ⟨mz_639, (fun _ h => absurd h List.not_mem_nil)⟩)⟩)⟩)⟩)⟩)⟩)⟩)⟩)⟩)⟩)⟩)⟩)⟩)⟩)⟩)⟩)⟩)⟩)⟩)⟩)⟩)⟩)⟩)⟩)
set_option maxRecDepth 100000 in
theorem mz_640 : Cond.fieldLink RX3 79 "LadleKings$Rules" "stirs" "I" ∈ lw_tbl := lw_t1 _ (List.mem_of_getElem? (i := 46) rfl)
set_option maxRecDepth 100000 in
theorem mz_641 : Cond.methodLink RX3 82 yX6_placeAfter ∈ lw_tbl := lw_t4 _ (List.mem_of_getElem? (i := 43) rfl)
set_option maxRecDepth 100000 in
theorem mz_642 : Cond.methodLink RX3 86 yX2_holderOf ∈ lw_tbl := lw_t4 _ (List.mem_of_getElem? (i := 44) rfl)
set_option maxRecDepth 100000 in
theorem mz_643 : Cond.methodLink RX3 32 yX3_rowsWithKing ∈ lw_tbl := lw_t4 _ (List.mem_of_getElem? (i := 46) rfl)
set_option maxRecDepth 100000 in
theorem mz_644 : Cond.instanceMethod yX3_rowsWithKing ∈ lw_tbl := lw_t4 _ (List.mem_of_getElem? (i := 48) rfl)
theorem mz_645 : Cond.selects RX3 yX3_rowsWithKing yX3_rowsWithKing ∈ lw_tbl := List.mem_of_getElem? (i := 16) (by decide +kernel)
set_option maxRecDepth 100000 in
theorem mz_646 : Cond.code yX3_rowsWithKing cX3_rowsWithKing 5 (some .long) ∈ lw_tbl := lw_t4 _ (List.mem_of_getElem? (i := 49) rfl)
set_option maxRecDepth 100000 in
theorem mz_647 : Cond.methodLink RX11 210 yX3_power ∈ lw_tbl := lw_t4 _ (List.mem_of_getElem? (i := 50) rfl)
set_option maxRecDepth 100000 in
theorem mz_648 : Cond.static yX3_power ∈ lw_tbl := lw_t4 _ (List.mem_of_getElem? (i := 51) rfl)
set_option maxRecDepth 100000 in
theorem mz_649 : Cond.code yX3_power cX3_power 5 (some .long) ∈ lw_tbl := lw_t4 _ (List.mem_of_getElem? (i := 52) rfl)
set_option maxRecDepth 100000 in
theorem mz_650 : Cond.methodLink RX11 213 yX3_part ∈ lw_tbl := lw_t4 _ (List.mem_of_getElem? (i := 53) rfl)
set_option maxRecDepth 100000 in
theorem mz_651 : Cond.static yX3_part ∈ lw_tbl := lw_t4 _ (List.mem_of_getElem? (i := 54) rfl)
set_option maxRecDepth 100000 in
theorem mz_652 : Cond.code yX3_part cX3_part 7 (some .long) ∈ lw_tbl := lw_t4 _ (List.mem_of_getElem? (i := 55) rfl)
set_option maxRecDepth 100000 in
theorem mz_653 : Cond.methodLink RX3 89 yX3_greatestDivisor ∈ lw_tbl := lw_t4 _ (List.mem_of_getElem? (i := 56) rfl)
set_option maxRecDepth 100000 in
theorem mz_654 : Cond.static yX3_greatestDivisor ∈ lw_tbl := lw_t4 _ (List.mem_of_getElem? (i := 57) rfl)
set_option maxRecDepth 100000 in
theorem mz_655 : Cond.code yX3_greatestDivisor cX3_greatestDivisor 11 (some .long) ∈ lw_tbl := lw_t4 _ (List.mem_of_getElem? (i := 58) rfl)
theorem hz_wsX11_chance_r4 : ∀ w ∈ wsX11_chance_r4, w ∈ lw_tbl := (List.forall_mem_cons.mpr ⟨mz_640, (List.forall_mem_cons.mpr ⟨mz_641, (List.forall_mem_cons.mpr ⟨mz_439, (List.forall_mem_cons.mpr ⟨mz_440, (List.forall_mem_cons.mpr ⟨mz_441, (List.forall_mem_cons.mpr ⟨mz_249, (List.forall_mem_cons.mpr ⟨mz_642, (List.forall_mem_cons.mpr ⟨mz_551, (List.forall_mem_cons.mpr ⟨mz_552, (List.forall_mem_cons.mpr ⟨mz_553, (List.forall_mem_cons.mpr ⟨mz_643, (List.forall_mem_cons.mpr ⟨mz_644, (List.forall_mem_cons.mpr ⟨mz_645, (List.forall_mem_cons.mpr ⟨mz_646, (List.forall_mem_cons.mpr ⟨mz_647, (List.forall_mem_cons.mpr ⟨mz_648, (List.forall_mem_cons.mpr ⟨mz_649, (List.forall_mem_cons.mpr ⟨mz_650, (List.forall_mem_cons.mpr ⟨mz_651, (List.forall_mem_cons.mpr ⟨mz_652, (List.forall_mem_cons.mpr ⟨mz_653, (List.forall_mem_cons.mpr ⟨mz_654, (List.forall_mem_cons.mpr ⟨mz_655, (fun _ h => absurd h List.not_mem_nil)⟩)⟩)⟩)⟩)⟩)⟩)⟩)⟩)⟩)⟩)⟩)⟩)⟩)⟩)⟩)⟩)⟩)⟩)⟩)⟩)⟩)⟩)⟩)
set_option maxRecDepth 100000 in
theorem hz_wsX30 : ∀ w ∈ wsX30, w ∈ lw_tbl := fun w h => (goodIn_r (big := lw_tbl) wsX30 [329, 331, 333, 335] rfl (by decide +kernel) w h).1
theorem hz_wsX11_chance : ∀ w ∈ wsX11_chance, w ∈ lw_tbl := (List.forall_mem_cons.mpr ⟨mz_600, (List.forall_mem_append.mpr ⟨(List.forall_mem_append.mpr ⟨(List.forall_mem_append.mpr ⟨(List.forall_mem_append.mpr ⟨(List.forall_mem_append.mpr ⟨(List.forall_mem_append.mpr ⟨hz_wsX11_chance_r1, (List.forall_mem_append.mpr ⟨hz_wsX11_chance_r2, (List.forall_mem_append.mpr ⟨hz_wsX11_chance_r3, hz_wsX11_chance_r4⟩)⟩)⟩), hz_wsX110⟩), hz_wsX60⟩), hz_wsX30⟩), hz_wsX20⟩), hz_wsX80⟩)⟩)
set_option maxRecDepth 100000 in
theorem mz_656 : Cond.methodLink RL 89 yX11_chance ∈ lw_tbl := lw_t4 _ (List.mem_of_getElem? (i := 11) rfl)
set_option maxRecDepth 100000 in
theorem mz_657 : Cond.instanceMethod yX11_chance ∈ lw_tbl := lw_t4 _ (List.mem_of_getElem? (i := 12) rfl)
set_option maxRecDepth 100000 in
theorem mz_658 : Cond.selects RX11 yX11_chance yX11_chance ∈ lw_tbl := lw_t4 _ (List.mem_of_getElem? (i := 13) rfl)
set_option maxRecDepth 100000 in
theorem mz_659 : Cond.code yX12_chance cX12_chance 7 (some .long) ∈ lw_tbl := lw_t6 _ (List.mem_of_getElem? (i := 121) rfl)
set_option maxRecDepth 100000 in
theorem mz_660 : Cond.constantLong RX12 236 (10) ∈ lw_tbl := lw_t6 _ (List.mem_of_getElem? (i := 122) rfl)
set_option maxRecDepth 100000 in
theorem mz_661 : Cond.constantLong RX12 241 (-1) ∈ lw_tbl := lw_t6 _ (List.mem_of_getElem? (i := 126) rfl)
set_option maxRecDepth 100000 in
theorem mz_662 : Cond.constantLong RX12 243 (-2) ∈ lw_tbl := lw_t6 _ (List.mem_of_getElem? (i := 127) rfl)
set_option maxRecDepth 100000 in
theorem mz_663 : Cond.fieldLink RX12 41 "LadleKingsModel" "ways" "[J" ∈ lw_tbl := lw_t5 _ (List.mem_of_getElem? (i := 99) rfl)
set_option maxRecDepth 100000 in
theorem mz_664 : Cond.methodLink RX12 238 yX12_isTold ∈ lw_tbl := lw_t6 _ (List.mem_of_getElem? (i := 123) rfl)
set_option maxRecDepth 100000 in
theorem mz_665 : Cond.static yX12_isTold ∈ lw_tbl := lw_t6 _ (List.mem_of_getElem? (i := 124) rfl)
set_option maxRecDepth 100000 in
theorem mz_666 : Cond.code yX12_isTold cX12_isTold 1 (some .boolean) ∈ lw_tbl := lw_t6 _ (List.mem_of_getElem? (i := 125) rfl)
set_option maxRecDepth 100000 in
theorem mz_667 : Cond.methodLink RX12 245 yX12_firstWays ∈ lw_tbl := lw_t6 _ (List.mem_of_getElem? (i := 128) rfl)
set_option maxRecDepth 100000 in
theorem mz_668 : Cond.instanceMethod yX12_firstWays ∈ lw_tbl := lw_t6 _ (List.mem_of_getElem? (i := 130) rfl)
theorem mz_669 : Cond.selects RX12 yX12_firstWays yX12_firstWays ∈ lw_tbl := List.mem_of_getElem? (i := 58) (by decide +kernel)
set_option maxRecDepth 100000 in
theorem mz_670 : Cond.code yX12_firstWays cX12_firstWays 2 none ∈ lw_tbl := lw_t6 _ (List.mem_of_getElem? (i := 131) rfl)
set_option maxRecDepth 100000 in
theorem mz_671 : Cond.methodLink RX12 248 yX12_nextWays ∈ lw_tbl := lw_t6 _ (List.mem_of_getElem? (i := 132) rfl)
set_option maxRecDepth 100000 in
theorem mz_672 : Cond.instanceMethod yX12_nextWays ∈ lw_tbl := lw_t6 _ (List.mem_of_getElem? (i := 134) rfl)
theorem hz_wsX12_chance_r1 : ∀ w ∈ wsX12_chance_r1, w ∈ lw_tbl := (List.forall_mem_cons.mpr ⟨mz_660, (List.forall_mem_cons.mpr ⟨mz_661, (List.forall_mem_cons.mpr ⟨mz_372, (List.forall_mem_cons.mpr ⟨mz_662, (List.forall_mem_cons.mpr ⟨mz_663, (List.forall_mem_cons.mpr ⟨mz_414, (List.forall_mem_cons.mpr ⟨mz_415, (List.forall_mem_cons.mpr ⟨mz_416, (List.forall_mem_cons.mpr ⟨mz_22, (List.forall_mem_cons.mpr ⟨mz_417, (List.forall_mem_cons.mpr ⟨mz_371, (List.forall_mem_cons.mpr ⟨mz_28, (List.forall_mem_cons.mpr ⟨mz_29, (List.forall_mem_cons.mpr ⟨mz_30, (List.forall_mem_cons.mpr ⟨mz_664, (List.forall_mem_cons.mpr ⟨mz_665, (List.forall_mem_cons.mpr ⟨mz_666, (List.forall_mem_cons.mpr ⟨mz_667, (List.forall_mem_cons.mpr ⟨mz_668, (List.forall_mem_cons.mpr ⟨mz_669, (List.forall_mem_cons.mpr ⟨mz_670, (List.forall_mem_cons.mpr ⟨mz_370, (List.forall_mem_cons.mpr ⟨mz_671, (List.forall_mem_cons.mpr ⟨mz_672, (fun _ h => absurd h List.not_mem_nil)⟩)⟩)⟩)⟩)⟩)⟩)⟩)⟩)⟩)⟩)⟩)⟩)⟩)⟩)⟩)⟩)⟩)⟩)⟩)⟩)⟩)⟩)⟩)⟩)
theorem mz_673 : Cond.selects RX12 yX12_nextWays yX12_nextWays ∈ lw_tbl := List.mem_of_getElem? (i := 59) (by decide +kernel)
set_option maxRecDepth 100000 in
theorem mz_674 : Cond.code yX12_nextWays cX12_nextWays 5 none ∈ lw_tbl := lw_t6 _ (List.mem_of_getElem? (i := 135) rfl)
set_option maxRecDepth 100000 in
theorem mz_675 : Cond.fieldLink RX12 45 "LadleKingsModel" "waysThen" "[J" ∈ lw_tbl := lw_t5 _ (List.mem_of_getElem? (i := 100) rfl)
set_option maxRecDepth 100000 in
theorem mz_676 : Cond.methodLink RX12 233 yX12_then ∈ lw_tbl := lw_t6 _ (List.mem_of_getElem? (i := 136) rfl)
set_option maxRecDepth 100000 in
theorem mz_677 : Cond.instanceMethod yX12_then ∈ lw_tbl := lw_t6 _ (List.mem_of_getElem? (i := 138) rfl)
theorem mz_678 : Cond.selects RX12 yX12_then yX12_then ∈ lw_tbl := List.mem_of_getElem? (i := 60) (by decide +kernel)
set_option maxRecDepth 100000 in
theorem mz_679 : Cond.code yX12_then cX12_then 3 (some .int) ∈ lw_tbl := lw_t6 _ (List.mem_of_getElem? (i := 139) rfl)
set_option maxRecDepth 100000 in
theorem mz_680 : Cond.methodLink RX12 252 yX12_power ∈ lw_tbl := lw_t6 _ (List.mem_of_getElem? (i := 140) rfl)
set_option maxRecDepth 100000 in
theorem mz_681 : Cond.instanceMethod yX12_power ∈ lw_tbl := lw_t6 _ (List.mem_of_getElem? (i := 142) rfl)
theorem mz_682 : Cond.selects RX12 yX12_power yX12_power ∈ lw_tbl := List.mem_of_getElem? (i := 61) (by decide +kernel)
set_option maxRecDepth 100000 in
theorem mz_683 : Cond.code yX12_power cX12_power 7 (some .long) ∈ lw_tbl := lw_t6 _ (List.mem_of_getElem? (i := 143) rfl)
theorem hz_wsX12_chance_r2 : ∀ w ∈ wsX12_chance_r2, w ∈ lw_tbl := (List.forall_mem_cons.mpr ⟨mz_673, (List.forall_mem_cons.mpr ⟨mz_674, (List.forall_mem_cons.mpr ⟨mz_675, (List.forall_mem_cons.mpr ⟨mz_676, (List.forall_mem_cons.mpr ⟨mz_677, (List.forall_mem_cons.mpr ⟨mz_678, (List.forall_mem_cons.mpr ⟨mz_679, (List.forall_mem_cons.mpr ⟨mz_374, (List.forall_mem_cons.mpr ⟨mz_558, (List.forall_mem_cons.mpr ⟨mz_559, (List.forall_mem_cons.mpr ⟨mz_560, (List.forall_mem_cons.mpr ⟨mz_561, (List.forall_mem_cons.mpr ⟨mz_525, (List.forall_mem_cons.mpr ⟨mz_526, (List.forall_mem_cons.mpr ⟨mz_527, (List.forall_mem_cons.mpr ⟨mz_528, (List.forall_mem_cons.mpr ⟨mz_529, (List.forall_mem_cons.mpr ⟨mz_530, (List.forall_mem_cons.mpr ⟨mz_531, (List.forall_mem_cons.mpr ⟨mz_532, (List.forall_mem_cons.mpr ⟨mz_680, (List.forall_mem_cons.mpr ⟨mz_681, (List.forall_mem_cons.mpr ⟨mz_682, (List.forall_mem_cons.mpr ⟨mz_683, (fun _ h => absurd h List.not_mem_nil)⟩)⟩)⟩)⟩)⟩)⟩)⟩)⟩)⟩)⟩)⟩)⟩)⟩)⟩)⟩)⟩)⟩)⟩)⟩)⟩)⟩)⟩)⟩)⟩)
set_option maxRecDepth 100000 in
theorem mz_684 : Cond.methodLink RX12 256 yX12_lowest ∈ lw_tbl := lw_t6 _ (List.mem_of_getElem? (i := 144) rfl)
set_option maxRecDepth 100000 in
theorem mz_685 : Cond.static yX12_lowest ∈ lw_tbl := lw_t6 _ (List.mem_of_getElem? (i := 145) rfl)
set_option maxRecDepth 100000 in
theorem mz_686 : Cond.code yX12_lowest cX12_lowest 7 (some .long) ∈ lw_tbl := lw_t6 _ (List.mem_of_getElem? (i := 146) rfl)
set_option maxRecDepth 100000 in
theorem mz_687 : Cond.methodLink RX12 229 yX12_common ∈ lw_tbl := lw_t6 _ (List.mem_of_getElem? (i := 147) rfl)
set_option maxRecDepth 100000 in
theorem mz_688 : Cond.static yX12_common ∈ lw_tbl := lw_t6 _ (List.mem_of_getElem? (i := 148) rfl)
set_option maxRecDepth 100000 in
theorem mz_689 : Cond.code yX12_common cX12_common 10 (some .long) ∈ lw_tbl := lw_t6 _ (List.mem_of_getElem? (i := 149) rfl)
theorem hz_wsX12_chance_r3 : ∀ w ∈ wsX12_chance_r3, w ∈ lw_tbl := (List.forall_mem_cons.mpr ⟨mz_684, (List.forall_mem_cons.mpr ⟨mz_685, (List.forall_mem_cons.mpr ⟨mz_686, (List.forall_mem_cons.mpr ⟨mz_687, (List.forall_mem_cons.mpr ⟨mz_688, (List.forall_mem_cons.mpr ⟨mz_689, (fun _ h => absurd h List.not_mem_nil)⟩)⟩)⟩)⟩)⟩)⟩)
theorem hz_wsX12_chance : ∀ w ∈ wsX12_chance, w ∈ lw_tbl := (List.forall_mem_cons.mpr ⟨mz_659, (List.forall_mem_append.mpr ⟨(List.forall_mem_append.mpr ⟨hz_wsX12_chance_r1, (List.forall_mem_append.mpr ⟨hz_wsX12_chance_r2, hz_wsX12_chance_r3⟩)⟩), hz_wsX120⟩)⟩)
set_option maxRecDepth 100000 in
theorem mz_690 : Cond.methodLink RL 93 yX12_chance ∈ lw_tbl := lw_t6 _ (List.mem_of_getElem? (i := 118) rfl)
set_option maxRecDepth 100000 in
theorem mz_691 : Cond.instanceMethod yX12_chance ∈ lw_tbl := lw_t6 _ (List.mem_of_getElem? (i := 119) rfl)
set_option maxRecDepth 100000 in
theorem mz_692 : Cond.selects RX12 yX12_chance yX12_chance ∈ lw_tbl := lw_t6 _ (List.mem_of_getElem? (i := 120) rfl)
set_option maxRecDepth 100000 in
theorem mz_693 : Cond.code yX11_lasts cX11_lasts 3 (some .long) ∈ lw_tbl := lw_t4 _ (List.mem_of_getElem? (i := 62) rfl)
set_option maxRecDepth 100000 in
theorem mz_694 : Cond.methodLink RX11 217 yX3_rowsOfReign ∈ lw_tbl := lw_t4 _ (List.mem_of_getElem? (i := 63) rfl)
set_option maxRecDepth 100000 in
theorem mz_695 : Cond.instanceMethod yX3_rowsOfReign ∈ lw_tbl := lw_t4 _ (List.mem_of_getElem? (i := 64) rfl)
set_option maxRecDepth 100000 in
theorem mz_696 : Cond.selects RX3 yX3_rowsOfReign yX3_rowsOfReign ∈ lw_tbl := lw_t4 _ (List.mem_of_getElem? (i := 65) rfl)
set_option maxRecDepth 100000 in
theorem mz_697 : Cond.code yX3_rowsOfReign cX3_rowsOfReign 3 (some .long) ∈ lw_tbl := lw_t4 _ (List.mem_of_getElem? (i := 66) rfl)
theorem hz_wsX11_lasts_r1 : ∀ w ∈ wsX11_lasts_r1, w ∈ lw_tbl := (List.forall_mem_cons.mpr ⟨mz_601, (List.forall_mem_cons.mpr ⟨mz_38, (List.forall_mem_cons.mpr ⟨mz_393, (List.forall_mem_cons.mpr ⟨mz_602, (List.forall_mem_cons.mpr ⟨mz_603, (List.forall_mem_cons.mpr ⟨mz_604, (List.forall_mem_cons.mpr ⟨mz_605, (List.forall_mem_cons.mpr ⟨mz_14, (List.forall_mem_cons.mpr ⟨mz_606, (List.forall_mem_cons.mpr ⟨mz_694, (List.forall_mem_cons.mpr ⟨mz_695, (List.forall_mem_cons.mpr ⟨mz_696, (List.forall_mem_cons.mpr ⟨mz_610, (List.forall_mem_cons.mpr ⟨mz_697, (List.forall_mem_cons.mpr ⟨mz_616, (List.forall_mem_cons.mpr ⟨mz_618, (List.forall_mem_cons.mpr ⟨mz_619, (List.forall_mem_cons.mpr ⟨mz_612, (List.forall_mem_cons.mpr ⟨mz_613, (List.forall_mem_cons.mpr ⟨mz_614, (List.forall_mem_cons.mpr ⟨mz_615, (List.forall_mem_cons.mpr ⟨mz_617, (List.forall_mem_cons.mpr ⟨mz_620, (List.forall_mem_cons.mpr ⟨mz_621, (fun _ h => absurd h List.not_mem_nil)⟩)⟩)⟩)⟩)⟩)⟩)⟩)⟩)⟩)⟩)⟩)⟩)⟩)⟩)⟩)⟩)⟩)⟩)⟩)⟩)⟩)⟩)⟩)⟩)
theorem hz_wsX11_lasts_r2 : ∀ w ∈ wsX11_lasts_r2, w ∈ lw_tbl := (List.forall_mem_cons.mpr ⟨mz_622, (List.forall_mem_cons.mpr ⟨mz_623, (List.forall_mem_cons.mpr ⟨mz_493, (List.forall_mem_cons.mpr ⟨mz_624, (List.forall_mem_cons.mpr ⟨mz_495, (List.forall_mem_cons.mpr ⟨mz_496, (List.forall_mem_cons.mpr ⟨mz_575, (List.forall_mem_cons.mpr ⟨mz_491, (List.forall_mem_cons.mpr ⟨mz_492, (List.forall_mem_cons.mpr ⟨mz_494, (List.forall_mem_cons.mpr ⟨mz_497, (List.forall_mem_cons.mpr ⟨mz_498, (List.forall_mem_cons.mpr ⟨mz_499, (List.forall_mem_cons.mpr ⟨mz_500, (List.forall_mem_cons.mpr ⟨mz_255, (List.forall_mem_cons.mpr ⟨mz_256, (List.forall_mem_cons.mpr ⟨mz_65, (List.forall_mem_cons.mpr ⟨mz_257, (List.forall_mem_cons.mpr ⟨mz_67, (List.forall_mem_cons.mpr ⟨mz_501, (List.forall_mem_cons.mpr ⟨mz_242, (List.forall_mem_cons.mpr ⟨mz_243, (List.forall_mem_cons.mpr ⟨mz_77, (List.forall_mem_cons.mpr ⟨mz_244, (fun _ h => absurd h List.not_mem_nil)⟩)⟩)⟩)⟩)⟩)⟩)⟩)⟩)⟩)⟩)⟩)⟩)⟩)⟩)⟩)⟩)⟩)⟩)⟩)⟩)⟩)⟩)⟩)⟩)
theorem hz_wsX11_lasts_r3 : ∀ w ∈ wsX11_lasts_r3, w ∈ lw_tbl := (List.forall_mem_cons.mpr ⟨mz_80, (List.forall_mem_cons.mpr ⟨mz_625, (List.forall_mem_cons.mpr ⟨mz_626, (List.forall_mem_cons.mpr ⟨mz_72, (List.forall_mem_cons.mpr ⟨mz_627, (List.forall_mem_cons.mpr ⟨mz_628, (List.forall_mem_cons.mpr ⟨mz_629, (List.forall_mem_cons.mpr ⟨mz_630, (List.forall_mem_cons.mpr ⟨mz_631, (List.forall_mem_cons.mpr ⟨mz_632, (List.forall_mem_cons.mpr ⟨mz_633, (List.forall_mem_cons.mpr ⟨mz_634, (List.forall_mem_cons.mpr ⟨mz_635, (List.forall_mem_cons.mpr ⟨mz_199, (List.forall_mem_cons.mpr ⟨mz_200, (List.forall_mem_cons.mpr ⟨mz_201, (List.forall_mem_cons.mpr ⟨mz_636, (List.forall_mem_cons.mpr ⟨mz_637, (List.forall_mem_cons.mpr ⟨mz_638, (List.forall_mem_cons.mpr ⟨mz_639, (List.forall_mem_cons.mpr ⟨mz_640, (List.forall_mem_cons.mpr ⟨mz_641, (List.forall_mem_cons.mpr ⟨mz_439, (List.forall_mem_cons.mpr ⟨mz_440, (fun _ h => absurd h List.not_mem_nil)⟩)⟩)⟩)⟩)⟩)⟩)⟩)⟩)⟩)⟩)⟩)⟩)⟩)⟩)⟩)⟩)⟩)⟩)⟩)⟩)⟩)⟩)⟩)⟩)
theorem hz_wsX11_lasts_r4 : ∀ w ∈ wsX11_lasts_r4, w ∈ lw_tbl := (List.forall_mem_cons.mpr ⟨mz_441, (List.forall_mem_cons.mpr ⟨mz_249, (List.forall_mem_cons.mpr ⟨mz_642, (List.forall_mem_cons.mpr ⟨mz_551, (List.forall_mem_cons.mpr ⟨mz_552, (List.forall_mem_cons.mpr ⟨mz_553, (List.forall_mem_cons.mpr ⟨mz_643, (List.forall_mem_cons.mpr ⟨mz_644, (List.forall_mem_cons.mpr ⟨mz_645, (List.forall_mem_cons.mpr ⟨mz_646, (List.forall_mem_cons.mpr ⟨mz_647, (List.forall_mem_cons.mpr ⟨mz_648, (List.forall_mem_cons.mpr ⟨mz_649, (List.forall_mem_cons.mpr ⟨mz_650, (List.forall_mem_cons.mpr ⟨mz_651, (List.forall_mem_cons.mpr ⟨mz_652, (List.forall_mem_cons.mpr ⟨mz_653, (List.forall_mem_cons.mpr ⟨mz_654, (List.forall_mem_cons.mpr ⟨mz_655, (fun _ h => absurd h List.not_mem_nil)⟩)⟩)⟩)⟩)⟩)⟩)⟩)⟩)⟩)⟩)⟩)⟩)⟩)⟩)⟩)⟩)⟩)⟩)⟩)
theorem hz_wsX11_lasts : ∀ w ∈ wsX11_lasts, w ∈ lw_tbl := (List.forall_mem_cons.mpr ⟨mz_693, (List.forall_mem_append.mpr ⟨(List.forall_mem_append.mpr ⟨(List.forall_mem_append.mpr ⟨(List.forall_mem_append.mpr ⟨(List.forall_mem_append.mpr ⟨(List.forall_mem_append.mpr ⟨hz_wsX11_lasts_r1, (List.forall_mem_append.mpr ⟨hz_wsX11_lasts_r2, (List.forall_mem_append.mpr ⟨hz_wsX11_lasts_r3, hz_wsX11_lasts_r4⟩)⟩)⟩), hz_wsX110⟩), hz_wsX60⟩), hz_wsX30⟩), hz_wsX20⟩), hz_wsX80⟩)⟩)
set_option maxRecDepth 100000 in
theorem mz_698 : Cond.methodLink RL 94 yX11_lasts ∈ lw_tbl := lw_t4 _ (List.mem_of_getElem? (i := 59) rfl)
set_option maxRecDepth 100000 in
theorem mz_699 : Cond.instanceMethod yX11_lasts ∈ lw_tbl := lw_t4 _ (List.mem_of_getElem? (i := 60) rfl)
set_option maxRecDepth 100000 in
theorem mz_700 : Cond.selects RX11 yX11_lasts yX11_lasts ∈ lw_tbl := lw_t4 _ (List.mem_of_getElem? (i := 61) rfl)
set_option maxRecDepth 100000 in
theorem mz_701 : Cond.code yX12_lasts cX12_lasts 6 (some .long) ∈ lw_tbl := lw_t6 _ (List.mem_of_getElem? (i := 153) rfl)
theorem hz_wsX12_lasts_r1 : ∀ w ∈ wsX12_lasts_r1, w ∈ lw_tbl := (List.forall_mem_cons.mpr ⟨mz_660, (List.forall_mem_cons.mpr ⟨mz_661, (List.forall_mem_cons.mpr ⟨mz_372, (List.forall_mem_cons.mpr ⟨mz_662, (List.forall_mem_cons.mpr ⟨mz_663, (List.forall_mem_cons.mpr ⟨mz_28, (List.forall_mem_cons.mpr ⟨mz_29, (List.forall_mem_cons.mpr ⟨mz_22, (List.forall_mem_cons.mpr ⟨mz_30, (List.forall_mem_cons.mpr ⟨mz_664, (List.forall_mem_cons.mpr ⟨mz_665, (List.forall_mem_cons.mpr ⟨mz_666, (List.forall_mem_cons.mpr ⟨mz_667, (List.forall_mem_cons.mpr ⟨mz_668, (List.forall_mem_cons.mpr ⟨mz_669, (List.forall_mem_cons.mpr ⟨mz_670, (List.forall_mem_cons.mpr ⟨mz_370, (List.forall_mem_cons.mpr ⟨mz_671, (List.forall_mem_cons.mpr ⟨mz_672, (List.forall_mem_cons.mpr ⟨mz_673, (List.forall_mem_cons.mpr ⟨mz_674, (List.forall_mem_cons.mpr ⟨mz_675, (List.forall_mem_cons.mpr ⟨mz_676, (List.forall_mem_cons.mpr ⟨mz_677, (fun _ h => absurd h List.not_mem_nil)⟩)⟩)⟩)⟩)⟩)⟩)⟩)⟩)⟩)⟩)⟩)⟩)⟩)⟩)⟩)⟩)⟩)⟩)⟩)⟩)⟩)⟩)⟩)⟩)
theorem hz_wsX12_lasts_r2 : ∀ w ∈ wsX12_lasts_r2, w ∈ lw_tbl := (List.forall_mem_cons.mpr ⟨mz_678, (List.forall_mem_cons.mpr ⟨mz_679, (List.forall_mem_cons.mpr ⟨mz_374, (List.forall_mem_cons.mpr ⟨mz_558, (List.forall_mem_cons.mpr ⟨mz_559, (List.forall_mem_cons.mpr ⟨mz_560, (List.forall_mem_cons.mpr ⟨mz_561, (List.forall_mem_cons.mpr ⟨mz_525, (List.forall_mem_cons.mpr ⟨mz_526, (List.forall_mem_cons.mpr ⟨mz_527, (List.forall_mem_cons.mpr ⟨mz_528, (List.forall_mem_cons.mpr ⟨mz_529, (List.forall_mem_cons.mpr ⟨mz_371, (List.forall_mem_cons.mpr ⟨mz_530, (List.forall_mem_cons.mpr ⟨mz_531, (List.forall_mem_cons.mpr ⟨mz_532, (List.forall_mem_cons.mpr ⟨mz_680, (List.forall_mem_cons.mpr ⟨mz_681, (List.forall_mem_cons.mpr ⟨mz_682, (List.forall_mem_cons.mpr ⟨mz_683, (List.forall_mem_cons.mpr ⟨mz_684, (List.forall_mem_cons.mpr ⟨mz_685, (List.forall_mem_cons.mpr ⟨mz_686, (List.forall_mem_cons.mpr ⟨mz_687, (fun _ h => absurd h List.not_mem_nil)⟩)⟩)⟩)⟩)⟩)⟩)⟩)⟩)⟩)⟩)⟩)⟩)⟩)⟩)⟩)⟩)⟩)⟩)⟩)⟩)⟩)⟩)⟩)⟩)
theorem hz_wsX12_lasts_r3 : ∀ w ∈ wsX12_lasts_r3, w ∈ lw_tbl := (List.forall_mem_cons.mpr ⟨mz_688, (List.forall_mem_cons.mpr ⟨mz_689, (fun _ h => absurd h List.not_mem_nil)⟩)⟩)
theorem hz_wsX12_lasts : ∀ w ∈ wsX12_lasts, w ∈ lw_tbl := (List.forall_mem_cons.mpr ⟨mz_701, (List.forall_mem_append.mpr ⟨(List.forall_mem_append.mpr ⟨hz_wsX12_lasts_r1, (List.forall_mem_append.mpr ⟨hz_wsX12_lasts_r2, hz_wsX12_lasts_r3⟩)⟩), hz_wsX120⟩)⟩)
set_option maxRecDepth 100000 in
theorem mz_702 : Cond.methodLink RL 98 yX12_lasts ∈ lw_tbl := lw_t6 _ (List.mem_of_getElem? (i := 150) rfl)
set_option maxRecDepth 100000 in
theorem mz_703 : Cond.instanceMethod yX12_lasts ∈ lw_tbl := lw_t6 _ (List.mem_of_getElem? (i := 151) rfl)
set_option maxRecDepth 100000 in
theorem mz_704 : Cond.selects RX12 yX12_lasts yX12_lasts ∈ lw_tbl := lw_t6 _ (List.mem_of_getElem? (i := 152) rfl)
set_option maxRecDepth 100000 in
theorem mz_705 : Cond.code yX11_reign cX11_reign 4 (some .int) ∈ lw_tbl := lw_t4 _ (List.mem_of_getElem? (i := 70) rfl)
set_option maxRecDepth 100000 in
theorem mz_706 : Cond.fieldLink RX11 60 "LadleKings" "plans" "LLadleKings$Plans;" ∈ lw_tbl := lw_t2 _ (List.mem_of_getElem? (i := 128) rfl)
set_option maxRecDepth 100000 in
theorem mz_707 : Cond.fieldLink RX11 228 "LadleKings$Plans" "row" "[I" ∈ lw_tbl := lw_t2 _ (List.mem_of_getElem? (i := 34) rfl)
set_option maxRecDepth 100000 in
theorem mz_708 : Cond.methodLink RX11 221 yX11_isRowQuestion ∈ lw_tbl := lw_t4 _ (List.mem_of_getElem? (i := 71) rfl)
set_option maxRecDepth 100000 in
theorem mz_709 : Cond.static yX11_isRowQuestion ∈ lw_tbl := lw_t4 _ (List.mem_of_getElem? (i := 72) rfl)
set_option maxRecDepth 100000 in
theorem mz_710 : Cond.code yX11_isRowQuestion cX11_isRowQuestion 2 (some .boolean) ∈ lw_tbl := lw_t4 _ (List.mem_of_getElem? (i := 73) rfl)
set_option maxRecDepth 100000 in
theorem mz_711 : Cond.methodLink RX11 224 yX5_planReign ∈ lw_tbl := lw_t4 _ (List.mem_of_getElem? (i := 74) rfl)
set_option maxRecDepth 100000 in
theorem mz_712 : Cond.instanceMethod yX5_planReign ∈ lw_tbl := lw_t4 _ (List.mem_of_getElem? (i := 75) rfl)
set_option maxRecDepth 100000 in
theorem mz_713 : Cond.selects RX5 yX5_planReign yX5_planReign ∈ lw_tbl := lw_t4 _ (List.mem_of_getElem? (i := 76) rfl)
set_option maxRecDepth 100000 in
theorem mz_714 : Cond.initialized RX5 ∈ lw_tbl := lw_t1 _ (List.mem_of_getElem? (i := 9) rfl)
set_option maxRecDepth 100000 in
theorem mz_715 : Cond.code yX5_planReign cX5_planReign 4 (some .int) ∈ lw_tbl := lw_t4 _ (List.mem_of_getElem? (i := 77) rfl)
set_option maxRecDepth 100000 in
theorem mz_716 : Cond.fieldLink RX5 19 "LadleKings$Plans" "kitchen" "LLadleKings$Kitchen;" ∈ lw_tbl := lw_t2 _ (List.mem_of_getElem? (i := 31) rfl)
set_option maxRecDepth 100000 in
theorem mz_717 : Cond.fieldLink RX5 9 "LadleKings$Plans" "good" "[J" ∈ lw_tbl := lw_t2 _ (List.mem_of_getElem? (i := 32) rfl)
set_option maxRecDepth 100000 in
theorem mz_718 : Cond.methodLink RX5 23 yX2_serveAllKings ∈ lw_tbl := lw_t4 _ (List.mem_of_getElem? (i := 78) rfl)
theorem hz_wsX11_reign_r1 : ∀ w ∈ wsX11_reign_r1, w ∈ lw_tbl := (List.forall_mem_cons.mpr ⟨mz_38, (List.forall_mem_cons.mpr ⟨mz_393, (List.forall_mem_cons.mpr ⟨mz_706, (List.forall_mem_cons.mpr ⟨mz_707, (List.forall_mem_cons.mpr ⟨mz_708, (List.forall_mem_cons.mpr ⟨mz_709, (List.forall_mem_cons.mpr ⟨mz_14, (List.forall_mem_cons.mpr ⟨mz_710, (List.forall_mem_cons.mpr ⟨mz_711, (List.forall_mem_cons.mpr ⟨mz_712, (List.forall_mem_cons.mpr ⟨mz_713, (List.forall_mem_cons.mpr ⟨mz_714, (List.forall_mem_cons.mpr ⟨mz_715, (List.forall_mem_cons.mpr ⟨mz_716, (List.forall_mem_cons.mpr ⟨mz_717, (List.forall_mem_cons.mpr ⟨mz_718, (List.forall_mem_cons.mpr ⟨mz_622, (List.forall_mem_cons.mpr ⟨mz_623, (List.forall_mem_cons.mpr ⟨mz_493, (List.forall_mem_cons.mpr ⟨mz_624, (List.forall_mem_cons.mpr ⟨mz_495, (List.forall_mem_cons.mpr ⟨mz_496, (List.forall_mem_cons.mpr ⟨mz_575, (List.forall_mem_cons.mpr ⟨mz_491, (fun _ h => absurd h List.not_mem_nil)⟩)⟩)⟩)⟩)⟩)⟩)⟩)⟩)⟩)⟩)⟩)⟩)⟩)⟩)⟩)⟩)⟩)⟩)⟩)⟩)⟩)⟩)⟩)⟩)
set_option maxRecDepth 100000 in
theorem mz_719 : Cond.methodLink RX5 28 yX5_allPairs ∈ lw_tbl := lw_t4 _ (List.mem_of_getElem? (i := 79) rfl)
set_option maxRecDepth 100000 in
theorem mz_720 : Cond.instanceMethod yX5_allPairs ∈ lw_tbl := lw_t4 _ (List.mem_of_getElem? (i := 81) rfl)
theorem mz_721 : Cond.selects RX5 yX5_allPairs yX5_allPairs ∈ lw_tbl := List.mem_of_getElem? (i := 17) (by decide +kernel)
set_option maxRecDepth 100000 in
theorem mz_722 : Cond.code yX5_allPairs cX5_allPairs 4 (some .long) ∈ lw_tbl := lw_t4 _ (List.mem_of_getElem? (i := 82) rfl)
set_option maxRecDepth 100000 in
theorem mz_723 : Cond.fieldLink RX5 48 "LadleKings$Kitchen" "rules" "LLadleKings$Rules;" ∈ lw_tbl := lw_t1 _ (List.mem_of_getElem? (i := 223) rfl)
set_option maxRecDepth 100000 in
theorem mz_724 : Cond.fieldLink RX5 52 "LadleKings$Rules" "seats" "I" ∈ lw_tbl := lw_t1 _ (List.mem_of_getElem? (i := 41) rfl)
set_option maxRecDepth 100000 in
theorem mz_725 : Cond.methodLink RX5 44 yX5_pairsOfKing ∈ lw_tbl := lw_t4 _ (List.mem_of_getElem? (i := 83) rfl)
theorem hz_wsX11_reign_r2 : ∀ w ∈ wsX11_reign_r2, w ∈ lw_tbl := (List.forall_mem_cons.mpr ⟨mz_492, (List.forall_mem_cons.mpr ⟨mz_494, (List.forall_mem_cons.mpr ⟨mz_497, (List.forall_mem_cons.mpr ⟨mz_498, (List.forall_mem_cons.mpr ⟨mz_499, (List.forall_mem_cons.mpr ⟨mz_500, (List.forall_mem_cons.mpr ⟨mz_255, (List.forall_mem_cons.mpr ⟨mz_256, (List.forall_mem_cons.mpr ⟨mz_65, (List.forall_mem_cons.mpr ⟨mz_257, (List.forall_mem_cons.mpr ⟨mz_67, (List.forall_mem_cons.mpr ⟨mz_501, (List.forall_mem_cons.mpr ⟨mz_242, (List.forall_mem_cons.mpr ⟨mz_243, (List.forall_mem_cons.mpr ⟨mz_77, (List.forall_mem_cons.mpr ⟨mz_244, (List.forall_mem_cons.mpr ⟨mz_80, (List.forall_mem_cons.mpr ⟨mz_719, (List.forall_mem_cons.mpr ⟨mz_720, (List.forall_mem_cons.mpr ⟨mz_721, (List.forall_mem_cons.mpr ⟨mz_722, (List.forall_mem_cons.mpr ⟨mz_723, (List.forall_mem_cons.mpr ⟨mz_724, (List.forall_mem_cons.mpr ⟨mz_725, (fun _ h => absurd h List.not_mem_nil)⟩)⟩)⟩)⟩)⟩)⟩)⟩)⟩)⟩)⟩)⟩)⟩)⟩)⟩)⟩)⟩)⟩)⟩)⟩)⟩)⟩)⟩)⟩)⟩)
set_option maxRecDepth 100000 in
theorem mz_726 : Cond.instanceMethod yX5_pairsOfKing ∈ lw_tbl := lw_t4 _ (List.mem_of_getElem? (i := 85) rfl)
theorem mz_727 : Cond.selects RX5 yX5_pairsOfKing yX5_pairsOfKing ∈ lw_tbl := List.mem_of_getElem? (i := 18) (by decide +kernel)
set_option maxRecDepth 100000 in
theorem mz_728 : Cond.code yX5_pairsOfKing cX5_pairsOfKing 5 (some .long) ∈ lw_tbl := lw_t4 _ (List.mem_of_getElem? (i := 86) rfl)
set_option maxRecDepth 100000 in
theorem mz_729 : Cond.methodLink RX5 58 yX5_bitOf ∈ lw_tbl := lw_t4 _ (List.mem_of_getElem? (i := 87) rfl)
set_option maxRecDepth 100000 in
theorem mz_730 : Cond.static yX5_bitOf ∈ lw_tbl := lw_t4 _ (List.mem_of_getElem? (i := 88) rfl)
set_option maxRecDepth 100000 in
theorem mz_731 : Cond.code yX5_bitOf cX5_bitOf 2 (some .long) ∈ lw_tbl := lw_t4 _ (List.mem_of_getElem? (i := 89) rfl)
set_option maxRecDepth 100000 in
theorem mz_732 : Cond.methodLink RX5 32 yX5_pairsBefore ∈ lw_tbl := lw_t4 _ (List.mem_of_getElem? (i := 90) rfl)
set_option maxRecDepth 100000 in
theorem mz_733 : Cond.instanceMethod yX5_pairsBefore ∈ lw_tbl := lw_t4 _ (List.mem_of_getElem? (i := 92) rfl)
theorem mz_734 : Cond.selects RX5 yX5_pairsBefore yX5_pairsBefore ∈ lw_tbl := List.mem_of_getElem? (i := 19) (by decide +kernel)
set_option maxRecDepth 100000 in
theorem mz_735 : Cond.code yX5_pairsBefore cX5_pairsBefore 8 (some .long) ∈ lw_tbl := lw_t4 _ (List.mem_of_getElem? (i := 93) rfl)
set_option maxRecDepth 100000 in
theorem mz_736 : Cond.methodLink RX5 74 yX5_firstStirInto ∈ lw_tbl := lw_t4 _ (List.mem_of_getElem? (i := 94) rfl)
set_option maxRecDepth 100000 in
theorem mz_737 : Cond.instanceMethod yX5_firstStirInto ∈ lw_tbl := lw_t4 _ (List.mem_of_getElem? (i := 96) rfl)
theorem mz_738 : Cond.selects RX5 yX5_firstStirInto yX5_firstStirInto ∈ lw_tbl := List.mem_of_getElem? (i := 20) (by decide +kernel)
set_option maxRecDepth 100000 in
theorem mz_739 : Cond.code yX5_firstStirInto cX5_firstStirInto 9 (some .int) ∈ lw_tbl := lw_t4 _ (List.mem_of_getElem? (i := 97) rfl)
set_option maxRecDepth 100000 in
theorem mz_740 : Cond.fieldLink RX5 78 "LadleKings$Rules" "stirs" "I" ∈ lw_tbl := lw_t1 _ (List.mem_of_getElem? (i := 50) rfl)
set_option maxRecDepth 100000 in
theorem mz_741 : Cond.methodLink RX5 81 yX6_placeAfter ∈ lw_tbl := lw_t4 _ (List.mem_of_getElem? (i := 98) rfl)
set_option maxRecDepth 100000 in
theorem mz_742 : Cond.methodLink RX5 85 yX2_holderOf ∈ lw_tbl := lw_t4 _ (List.mem_of_getElem? (i := 99) rfl)
theorem hz_wsX11_reign_r3 : ∀ w ∈ wsX11_reign_r3, w ∈ lw_tbl := (List.forall_mem_cons.mpr ⟨mz_726, (List.forall_mem_cons.mpr ⟨mz_727, (List.forall_mem_cons.mpr ⟨mz_728, (List.forall_mem_cons.mpr ⟨mz_729, (List.forall_mem_cons.mpr ⟨mz_730, (List.forall_mem_cons.mpr ⟨mz_731, (List.forall_mem_cons.mpr ⟨mz_732, (List.forall_mem_cons.mpr ⟨mz_733, (List.forall_mem_cons.mpr ⟨mz_734, (List.forall_mem_cons.mpr ⟨mz_735, (List.forall_mem_cons.mpr ⟨mz_736, (List.forall_mem_cons.mpr ⟨mz_737, (List.forall_mem_cons.mpr ⟨mz_738, (List.forall_mem_cons.mpr ⟨mz_739, (List.forall_mem_cons.mpr ⟨mz_740, (List.forall_mem_cons.mpr ⟨mz_741, (List.forall_mem_cons.mpr ⟨mz_439, (List.forall_mem_cons.mpr ⟨mz_440, (List.forall_mem_cons.mpr ⟨mz_441, (List.forall_mem_cons.mpr ⟨mz_249, (List.forall_mem_cons.mpr ⟨mz_742, (List.forall_mem_cons.mpr ⟨mz_551, (List.forall_mem_cons.mpr ⟨mz_552, (List.forall_mem_cons.mpr ⟨mz_553, (fun _ h => absurd h List.not_mem_nil)⟩)⟩)⟩)⟩)⟩)⟩)⟩)⟩)⟩)⟩)⟩)⟩)⟩)⟩)⟩)⟩)⟩)⟩)⟩)⟩)⟩)⟩)⟩)⟩)
set_option maxRecDepth 100000 in
theorem mz_743 : Cond.methodLink RX5 36 yX5_isGoodNow ∈ lw_tbl := lw_t4 _ (List.mem_of_getElem? (i := 100) rfl)
set_option maxRecDepth 100000 in
theorem mz_744 : Cond.instanceMethod yX5_isGoodNow ∈ lw_tbl := lw_t4 _ (List.mem_of_getElem? (i := 102) rfl)
theorem mz_745 : Cond.selects RX5 yX5_isGoodNow yX5_isGoodNow ∈ lw_tbl := List.mem_of_getElem? (i := 21) (by decide +kernel)
set_option maxRecDepth 100000 in
theorem mz_746 : Cond.code yX5_isGoodNow cX5_isGoodNow 2 (some .boolean) ∈ lw_tbl := lw_t4 _ (List.mem_of_getElem? (i := 103) rfl)
set_option maxRecDepth 100000 in
theorem mz_747 : Cond.fieldLink RX5 62 "LadleKings$Kitchen" "state" "LLadleKings$State;" ∈ lw_tbl := lw_t1 _ (List.mem_of_getElem? (i := 230) rfl)
set_option maxRecDepth 100000 in
theorem mz_748 : Cond.fieldLink RX5 66 "LadleKings$State" "king" "I" ∈ lw_tbl := lw_t1 _ (List.mem_of_getElem? (i := 116) rfl)
set_option maxRecDepth 100000 in
theorem mz_749 : Cond.fieldLink RX5 71 "LadleKings$State" "bone" "I" ∈ lw_tbl := lw_t1 _ (List.mem_of_getElem? (i := 108) rfl)
set_option maxRecDepth 100000 in
theorem mz_750 : Cond.methodLink RX5 40 yX5_tellRow ∈ lw_tbl := lw_t4 _ (List.mem_of_getElem? (i := 104) rfl)
set_option maxRecDepth 100000 in
theorem mz_751 : Cond.instanceMethod yX5_tellRow ∈ lw_tbl := lw_t4 _ (List.mem_of_getElem? (i := 106) rfl)
theorem mz_752 : Cond.selects RX5 yX5_tellRow yX5_tellRow ∈ lw_tbl := List.mem_of_getElem? (i := 22) (by decide +kernel)
set_option maxRecDepth 100000 in
theorem mz_753 : Cond.code yX5_tellRow cX5_tellRow 7 none ∈ lw_tbl := lw_t4 _ (List.mem_of_getElem? (i := 107) rfl)
set_option maxRecDepth 100000 in
theorem mz_754 : Cond.fieldLink RX5 15 "LadleKings$Plans" "row" "[I" ∈ lw_tbl := lw_t2 _ (List.mem_of_getElem? (i := 33) rfl)
set_option maxRecDepth 100000 in
theorem mz_755 : Cond.methodLink RX5 88 yX6_hasStir ∈ lw_tbl := lw_t4 _ (List.mem_of_getElem? (i := 108) rfl)
set_option maxRecDepth 100000 in
theorem mz_756 : Cond.methodLink RX11 231 yX11_ofRow ∈ lw_tbl := lw_t4 _ (List.mem_of_getElem? (i := 109) rfl)
set_option maxRecDepth 100000 in
theorem mz_757 : Cond.static yX11_ofRow ∈ lw_tbl := lw_t4 _ (List.mem_of_getElem? (i := 110) rfl)
set_option maxRecDepth 100000 in
theorem mz_758 : Cond.code yX11_ofRow cX11_ofRow 3 (some .int) ∈ lw_tbl := lw_t4 _ (List.mem_of_getElem? (i := 111) rfl)
theorem hz_wsX11_reign_r4 : ∀ w ∈ wsX11_reign_r4, w ∈ lw_tbl := (List.forall_mem_cons.mpr ⟨mz_743, (List.forall_mem_cons.mpr ⟨mz_744, (List.forall_mem_cons.mpr ⟨mz_745, (List.forall_mem_cons.mpr ⟨mz_746, (List.forall_mem_cons.mpr ⟨mz_747, (List.forall_mem_cons.mpr ⟨mz_748, (List.forall_mem_cons.mpr ⟨mz_749, (List.forall_mem_cons.mpr ⟨mz_750, (List.forall_mem_cons.mpr ⟨mz_751, (List.forall_mem_cons.mpr ⟨mz_752, (List.forall_mem_cons.mpr ⟨mz_753, (List.forall_mem_cons.mpr ⟨mz_754, (List.forall_mem_cons.mpr ⟨mz_755, (List.forall_mem_cons.mpr ⟨mz_435, (List.forall_mem_cons.mpr ⟨mz_436, (List.forall_mem_cons.mpr ⟨mz_437, (List.forall_mem_cons.mpr ⟨mz_68, (List.forall_mem_cons.mpr ⟨mz_756, (List.forall_mem_cons.mpr ⟨mz_757, (List.forall_mem_cons.mpr ⟨mz_758, (fun _ h => absurd h List.not_mem_nil)⟩)⟩)⟩)⟩)⟩)⟩)⟩)⟩)⟩)⟩)⟩)⟩)⟩)⟩)⟩)⟩)⟩)⟩)⟩)⟩)
set_option maxRecDepth 100000 in
theorem hz_wsX50 : ∀ w ∈ wsX50, w ∈ lw_tbl := fun w h => (goodIn_r (big := lw_tbl) wsX50 [349, 351, 353] rfl (by decide +kernel) w h).1
theorem hz_wsX11_reign : ∀ w ∈ wsX11_reign, w ∈ lw_tbl := (List.forall_mem_cons.mpr ⟨mz_705, (List.forall_mem_append.mpr ⟨(List.forall_mem_append.mpr ⟨(List.forall_mem_append.mpr ⟨(List.forall_mem_append.mpr ⟨(List.forall_mem_append.mpr ⟨(List.forall_mem_append.mpr ⟨hz_wsX11_reign_r1, (List.forall_mem_append.mpr ⟨hz_wsX11_reign_r2, (List.forall_mem_append.mpr ⟨hz_wsX11_reign_r3, hz_wsX11_reign_r4⟩)⟩)⟩), hz_wsX110⟩), hz_wsX60⟩), hz_wsX50⟩), hz_wsX20⟩), hz_wsX80⟩)⟩)
set_option maxRecDepth 100000 in
theorem mz_759 : Cond.methodLink RL 99 yX11_reign ∈ lw_tbl := lw_t4 _ (List.mem_of_getElem? (i := 67) rfl)
set_option maxRecDepth 100000 in
theorem mz_760 : Cond.instanceMethod yX11_reign ∈ lw_tbl := lw_t4 _ (List.mem_of_getElem? (i := 68) rfl)
set_option maxRecDepth 100000 in
theorem mz_761 : Cond.selects RX11 yX11_reign yX11_reign ∈ lw_tbl := lw_t4 _ (List.mem_of_getElem? (i := 69) rfl)
set_option maxRecDepth 100000 in
theorem mz_762 : Cond.code yX12_reign cX12_reign 10 (some .int) ∈ lw_tbl := lw_t6 _ (List.mem_of_getElem? (i := 157) rfl)
set_option maxRecDepth 100000 in
theorem mz_763 : Cond.constantLong RX12 263 (19) ∈ lw_tbl := lw_t6 _ (List.mem_of_getElem? (i := 158) rfl)
set_option maxRecDepth 100000 in
theorem mz_764 : Cond.methodLink RX12 265 yX12_findStays ∈ lw_tbl := lw_t6 _ (List.mem_of_getElem? (i := 159) rfl)
set_option maxRecDepth 100000 in
theorem mz_765 : Cond.instanceMethod yX12_findStays ∈ lw_tbl := lw_t6 _ (List.mem_of_getElem? (i := 161) rfl)
theorem mz_766 : Cond.selects RX12 yX12_findStays yX12_findStays ∈ lw_tbl := List.mem_of_getElem? (i := 62) (by decide +kernel)
set_option maxRecDepth 100000 in
theorem mz_767 : Cond.code yX12_findStays cX12_findStays 8 none ∈ lw_tbl := lw_t6 _ (List.mem_of_getElem? (i := 162) rfl)
set_option maxRecDepth 100000 in
theorem mz_768 : Cond.fieldLink RX12 48 "LadleKingsModel" "stays" "[I" ∈ lw_tbl := lw_t5 _ (List.mem_of_getElem? (i := 101) rfl)
theorem hz_wsX12_reign_r1 : ∀ w ∈ wsX12_reign_r1, w ∈ lw_tbl := (List.forall_mem_cons.mpr ⟨mz_660, (List.forall_mem_cons.mpr ⟨mz_763, (List.forall_mem_cons.mpr ⟨mz_372, (List.forall_mem_cons.mpr ⟨mz_28, (List.forall_mem_cons.mpr ⟨mz_29, (List.forall_mem_cons.mpr ⟨mz_22, (List.forall_mem_cons.mpr ⟨mz_30, (List.forall_mem_cons.mpr ⟨mz_764, (List.forall_mem_cons.mpr ⟨mz_765, (List.forall_mem_cons.mpr ⟨mz_766, (List.forall_mem_cons.mpr ⟨mz_767, (List.forall_mem_cons.mpr ⟨mz_768, (List.forall_mem_cons.mpr ⟨mz_371, (List.forall_mem_cons.mpr ⟨mz_676, (List.forall_mem_cons.mpr ⟨mz_677, (List.forall_mem_cons.mpr ⟨mz_678, (List.forall_mem_cons.mpr ⟨mz_679, (List.forall_mem_cons.mpr ⟨mz_374, (List.forall_mem_cons.mpr ⟨mz_558, (List.forall_mem_cons.mpr ⟨mz_559, (List.forall_mem_cons.mpr ⟨mz_560, (List.forall_mem_cons.mpr ⟨mz_561, (List.forall_mem_cons.mpr ⟨mz_525, (List.forall_mem_cons.mpr ⟨mz_526, (fun _ h => absurd h List.not_mem_nil)⟩)⟩)⟩)⟩)⟩)⟩)⟩)⟩)⟩)⟩)⟩)⟩)⟩)⟩)⟩)⟩)⟩)⟩)⟩)⟩)⟩)⟩)⟩)⟩)
set_option maxRecDepth 100000 in
theorem mz_769 : Cond.methodLink RX12 260 yX12_longestFrom ∈ lw_tbl := lw_t6 _ (List.mem_of_getElem? (i := 163) rfl)
set_option maxRecDepth 100000 in
theorem mz_770 : Cond.instanceMethod yX12_longestFrom ∈ lw_tbl := lw_t6 _ (List.mem_of_getElem? (i := 165) rfl)
theorem mz_771 : Cond.selects RX12 yX12_longestFrom yX12_longestFrom ∈ lw_tbl := List.mem_of_getElem? (i := 63) (by decide +kernel)
set_option maxRecDepth 100000 in
theorem mz_772 : Cond.code yX12_longestFrom cX12_longestFrom 3 (some .int) ∈ lw_tbl := lw_t6 _ (List.mem_of_getElem? (i := 166) rfl)
set_option maxRecDepth 100000 in
theorem mz_773 : Cond.methodLink RX12 268 yX12_stateNow ∈ lw_tbl := lw_t6 _ (List.mem_of_getElem? (i := 167) rfl)
set_option maxRecDepth 100000 in
theorem mz_774 : Cond.instanceMethod yX12_stateNow ∈ lw_tbl := lw_t6 _ (List.mem_of_getElem? (i := 169) rfl)
theorem mz_775 : Cond.selects RX12 yX12_stateNow yX12_stateNow ∈ lw_tbl := List.mem_of_getElem? (i := 64) (by decide +kernel)
set_option maxRecDepth 100000 in
theorem mz_776 : Cond.code yX12_stateNow cX12_stateNow 1 (some .int) ∈ lw_tbl := lw_t6 _ (List.mem_of_getElem? (i := 170) rfl)
theorem hz_wsX12_reign_r2 : ∀ w ∈ wsX12_reign_r2, w ∈ lw_tbl := (List.forall_mem_cons.mpr ⟨mz_527, (List.forall_mem_cons.mpr ⟨mz_528, (List.forall_mem_cons.mpr ⟨mz_529, (List.forall_mem_cons.mpr ⟨mz_370, (List.forall_mem_cons.mpr ⟨mz_530, (List.forall_mem_cons.mpr ⟨mz_531, (List.forall_mem_cons.mpr ⟨mz_532, (List.forall_mem_cons.mpr ⟨mz_769, (List.forall_mem_cons.mpr ⟨mz_770, (List.forall_mem_cons.mpr ⟨mz_771, (List.forall_mem_cons.mpr ⟨mz_772, (List.forall_mem_cons.mpr ⟨mz_773, (List.forall_mem_cons.mpr ⟨mz_774, (List.forall_mem_cons.mpr ⟨mz_775, (List.forall_mem_cons.mpr ⟨mz_776, (fun _ h => absurd h List.not_mem_nil)⟩)⟩)⟩)⟩)⟩)⟩)⟩)⟩)⟩)⟩)⟩)⟩)⟩)⟩)⟩)
theorem hz_wsX12_reign : ∀ w ∈ wsX12_reign, w ∈ lw_tbl := (List.forall_mem_cons.mpr ⟨mz_762, (List.forall_mem_append.mpr ⟨(List.forall_mem_append.mpr ⟨hz_wsX12_reign_r1, hz_wsX12_reign_r2⟩), hz_wsX120⟩)⟩)
set_option maxRecDepth 100000 in
theorem mz_777 : Cond.methodLink RL 102 yX12_reign ∈ lw_tbl := lw_t6 _ (List.mem_of_getElem? (i := 154) rfl)
set_option maxRecDepth 100000 in
theorem mz_778 : Cond.instanceMethod yX12_reign ∈ lw_tbl := lw_t6 _ (List.mem_of_getElem? (i := 155) rfl)
set_option maxRecDepth 100000 in
theorem mz_779 : Cond.selects RX12 yX12_reign yX12_reign ∈ lw_tbl := lw_t6 _ (List.mem_of_getElem? (i := 156) rfl)
set_option maxRecDepth 100000 in
theorem mz_780 : Cond.code yX11_raise cX11_raise 4 (some .int) ∈ lw_tbl := lw_t4 _ (List.mem_of_getElem? (i := 115) rfl)
set_option maxRecDepth 100000 in
theorem mz_781 : Cond.methodLink RX11 235 yX5_planRaise ∈ lw_tbl := lw_t4 _ (List.mem_of_getElem? (i := 116) rfl)
set_option maxRecDepth 100000 in
theorem mz_782 : Cond.instanceMethod yX5_planRaise ∈ lw_tbl := lw_t4 _ (List.mem_of_getElem? (i := 117) rfl)
set_option maxRecDepth 100000 in
theorem mz_783 : Cond.selects RX5 yX5_planRaise yX5_planRaise ∈ lw_tbl := lw_t4 _ (List.mem_of_getElem? (i := 118) rfl)
set_option maxRecDepth 100000 in
theorem mz_784 : Cond.code yX5_planRaise cX5_planRaise 3 (some .int) ∈ lw_tbl := lw_t4 _ (List.mem_of_getElem? (i := 119) rfl)
theorem hz_wsX11_raise_r1 : ∀ w ∈ wsX11_raise_r1, w ∈ lw_tbl := (List.forall_mem_cons.mpr ⟨mz_38, (List.forall_mem_cons.mpr ⟨mz_393, (List.forall_mem_cons.mpr ⟨mz_706, (List.forall_mem_cons.mpr ⟨mz_707, (List.forall_mem_cons.mpr ⟨mz_406, (List.forall_mem_cons.mpr ⟨mz_407, (List.forall_mem_cons.mpr ⟨mz_408, (List.forall_mem_cons.mpr ⟨mz_65, (List.forall_mem_cons.mpr ⟨mz_409, (List.forall_mem_cons.mpr ⟨mz_67, (List.forall_mem_cons.mpr ⟨mz_708, (List.forall_mem_cons.mpr ⟨mz_709, (List.forall_mem_cons.mpr ⟨mz_14, (List.forall_mem_cons.mpr ⟨mz_710, (List.forall_mem_cons.mpr ⟨mz_781, (List.forall_mem_cons.mpr ⟨mz_782, (List.forall_mem_cons.mpr ⟨mz_783, (List.forall_mem_cons.mpr ⟨mz_714, (List.forall_mem_cons.mpr ⟨mz_784, (List.forall_mem_cons.mpr ⟨mz_716, (List.forall_mem_cons.mpr ⟨mz_717, (List.forall_mem_cons.mpr ⟨mz_718, (List.forall_mem_cons.mpr ⟨mz_622, (List.forall_mem_cons.mpr ⟨mz_623, (fun _ h => absurd h List.not_mem_nil)⟩)⟩)⟩)⟩)⟩)⟩)⟩)⟩)⟩)⟩)⟩)⟩)⟩)⟩)⟩)⟩)⟩)⟩)⟩)⟩)⟩)⟩)⟩)⟩)
theorem hz_wsX11_raise_r2 : ∀ w ∈ wsX11_raise_r2, w ∈ lw_tbl := (List.forall_mem_cons.mpr ⟨mz_493, (List.forall_mem_cons.mpr ⟨mz_624, (List.forall_mem_cons.mpr ⟨mz_495, (List.forall_mem_cons.mpr ⟨mz_496, (List.forall_mem_cons.mpr ⟨mz_575, (List.forall_mem_cons.mpr ⟨mz_491, (List.forall_mem_cons.mpr ⟨mz_492, (List.forall_mem_cons.mpr ⟨mz_494, (List.forall_mem_cons.mpr ⟨mz_497, (List.forall_mem_cons.mpr ⟨mz_498, (List.forall_mem_cons.mpr ⟨mz_499, (List.forall_mem_cons.mpr ⟨mz_500, (List.forall_mem_cons.mpr ⟨mz_255, (List.forall_mem_cons.mpr ⟨mz_256, (List.forall_mem_cons.mpr ⟨mz_257, (List.forall_mem_cons.mpr ⟨mz_501, (List.forall_mem_cons.mpr ⟨mz_242, (List.forall_mem_cons.mpr ⟨mz_243, (List.forall_mem_cons.mpr ⟨mz_77, (List.forall_mem_cons.mpr ⟨mz_244, (List.forall_mem_cons.mpr ⟨mz_80, (List.forall_mem_cons.mpr ⟨mz_725, (List.forall_mem_cons.mpr ⟨mz_726, (List.forall_mem_cons.mpr ⟨mz_727, (fun _ h => absurd h List.not_mem_nil)⟩)⟩)⟩)⟩)⟩)⟩)⟩)⟩)⟩)⟩)⟩)⟩)⟩)⟩)⟩)⟩)⟩)⟩)⟩)⟩)⟩)⟩)⟩)⟩)
theorem hz_wsX11_raise_r3 : ∀ w ∈ wsX11_raise_r3, w ∈ lw_tbl := (List.forall_mem_cons.mpr ⟨mz_728, (List.forall_mem_cons.mpr ⟨mz_723, (List.forall_mem_cons.mpr ⟨mz_724, (List.forall_mem_cons.mpr ⟨mz_729, (List.forall_mem_cons.mpr ⟨mz_730, (List.forall_mem_cons.mpr ⟨mz_731, (List.forall_mem_cons.mpr ⟨mz_732, (List.forall_mem_cons.mpr ⟨mz_733, (List.forall_mem_cons.mpr ⟨mz_734, (List.forall_mem_cons.mpr ⟨mz_735, (List.forall_mem_cons.mpr ⟨mz_736, (List.forall_mem_cons.mpr ⟨mz_737, (List.forall_mem_cons.mpr ⟨mz_738, (List.forall_mem_cons.mpr ⟨mz_739, (List.forall_mem_cons.mpr ⟨mz_740, (List.forall_mem_cons.mpr ⟨mz_741, (List.forall_mem_cons.mpr ⟨mz_439, (List.forall_mem_cons.mpr ⟨mz_440, (List.forall_mem_cons.mpr ⟨mz_441, (List.forall_mem_cons.mpr ⟨mz_249, (List.forall_mem_cons.mpr ⟨mz_742, (List.forall_mem_cons.mpr ⟨mz_551, (List.forall_mem_cons.mpr ⟨mz_552, (List.forall_mem_cons.mpr ⟨mz_553, (fun _ h => absurd h List.not_mem_nil)⟩)⟩)⟩)⟩)⟩)⟩)⟩)⟩)⟩)⟩)⟩)⟩)⟩)⟩)⟩)⟩)⟩)⟩)⟩)⟩)⟩)⟩)⟩)⟩)
theorem hz_wsX11_raise_r4 : ∀ w ∈ wsX11_raise_r4, w ∈ lw_tbl := (List.forall_mem_cons.mpr ⟨mz_743, (List.forall_mem_cons.mpr ⟨mz_744, (List.forall_mem_cons.mpr ⟨mz_745, (List.forall_mem_cons.mpr ⟨mz_746, (List.forall_mem_cons.mpr ⟨mz_747, (List.forall_mem_cons.mpr ⟨mz_748, (List.forall_mem_cons.mpr ⟨mz_749, (List.forall_mem_cons.mpr ⟨mz_750, (List.forall_mem_cons.mpr ⟨mz_751, (List.forall_mem_cons.mpr ⟨mz_752, (List.forall_mem_cons.mpr ⟨mz_753, (List.forall_mem_cons.mpr ⟨mz_754, (List.forall_mem_cons.mpr ⟨mz_755, (List.forall_mem_cons.mpr ⟨mz_435, (List.forall_mem_cons.mpr ⟨mz_436, (List.forall_mem_cons.mpr ⟨mz_437, (List.forall_mem_cons.mpr ⟨mz_68, (List.forall_mem_cons.mpr ⟨mz_756, (List.forall_mem_cons.mpr ⟨mz_757, (List.forall_mem_cons.mpr ⟨mz_758, (fun _ h => absurd h List.not_mem_nil)⟩)⟩)⟩)⟩)⟩)⟩)⟩)⟩)⟩)⟩)⟩)⟩)⟩)⟩)⟩)⟩)⟩)⟩)⟩)⟩)
theorem hz_wsX11_raise : ∀ w ∈ wsX11_raise, w ∈ lw_tbl := (List.forall_mem_cons.mpr ⟨mz_780, (List.forall_mem_append.mpr ⟨(List.forall_mem_append.mpr ⟨(List.forall_mem_append.mpr ⟨(List.forall_mem_append.mpr ⟨(List.forall_mem_append.mpr ⟨(List.forall_mem_append.mpr ⟨hz_wsX11_raise_r1, (List.forall_mem_append.mpr ⟨hz_wsX11_raise_r2, (List.forall_mem_append.mpr ⟨hz_wsX11_raise_r3, hz_wsX11_raise_r4⟩)⟩)⟩), hz_wsX110⟩), hz_wsX60⟩), hz_wsX50⟩), hz_wsX20⟩), hz_wsX80⟩)⟩)
set_option maxRecDepth 100000 in
theorem mz_785 : Cond.methodLink RL 103 yX11_raise ∈ lw_tbl := lw_t4 _ (List.mem_of_getElem? (i := 112) rfl)
set_option maxRecDepth 100000 in
theorem mz_786 : Cond.instanceMethod yX11_raise ∈ lw_tbl := lw_t4 _ (List.mem_of_getElem? (i := 113) rfl)
set_option maxRecDepth 100000 in
theorem mz_787 : Cond.selects RX11 yX11_raise yX11_raise ∈ lw_tbl := lw_t4 _ (List.mem_of_getElem? (i := 114) rfl)
set_option maxRecDepth 100000 in
theorem mz_788 : Cond.code yX12_raise cX12_raise 8 (some .int) ∈ lw_tbl := lw_t6 _ (List.mem_of_getElem? (i := 174) rfl)
set_option maxRecDepth 100000 in
theorem mz_789 : Cond.fieldLink RX12 51 "LadleKingsModel" "fewest" "[I" ∈ lw_tbl := lw_t5 _ (List.mem_of_getElem? (i := 102) rfl)
set_option maxRecDepth 100000 in
theorem mz_790 : Cond.methodLink RX12 272 yX12_findFewest ∈ lw_tbl := lw_t6 _ (List.mem_of_getElem? (i := 175) rfl)
set_option maxRecDepth 100000 in
theorem mz_791 : Cond.instanceMethod yX12_findFewest ∈ lw_tbl := lw_t6 _ (List.mem_of_getElem? (i := 177) rfl)
theorem mz_792 : Cond.selects RX12 yX12_findFewest yX12_findFewest ∈ lw_tbl := List.mem_of_getElem? (i := 65) (by decide +kernel)
set_option maxRecDepth 100000 in
theorem mz_793 : Cond.code yX12_findFewest cX12_findFewest 6 none ∈ lw_tbl := lw_t6 _ (List.mem_of_getElem? (i := 178) rfl)
set_option maxRecDepth 100000 in
theorem mz_794 : Cond.constant RX12 271 (1000000) ∈ lw_tbl := lw_t6 _ (List.mem_of_getElem? (i := 179) rfl)
theorem hz_wsX12_raise_r1 : ∀ w ∈ wsX12_raise_r1, w ∈ lw_tbl := (List.forall_mem_cons.mpr ⟨mz_660, (List.forall_mem_cons.mpr ⟨mz_763, (List.forall_mem_cons.mpr ⟨mz_372, (List.forall_mem_cons.mpr ⟨mz_789, (List.forall_mem_cons.mpr ⟨mz_414, (List.forall_mem_cons.mpr ⟨mz_415, (List.forall_mem_cons.mpr ⟨mz_416, (List.forall_mem_cons.mpr ⟨mz_22, (List.forall_mem_cons.mpr ⟨mz_417, (List.forall_mem_cons.mpr ⟨mz_371, (List.forall_mem_cons.mpr ⟨mz_28, (List.forall_mem_cons.mpr ⟨mz_29, (List.forall_mem_cons.mpr ⟨mz_30, (List.forall_mem_cons.mpr ⟨mz_790, (List.forall_mem_cons.mpr ⟨mz_791, (List.forall_mem_cons.mpr ⟨mz_792, (List.forall_mem_cons.mpr ⟨mz_793, (List.forall_mem_cons.mpr ⟨mz_794, (List.forall_mem_cons.mpr ⟨mz_676, (List.forall_mem_cons.mpr ⟨mz_677, (List.forall_mem_cons.mpr ⟨mz_678, (List.forall_mem_cons.mpr ⟨mz_679, (List.forall_mem_cons.mpr ⟨mz_374, (List.forall_mem_cons.mpr ⟨mz_558, (fun _ h => absurd h List.not_mem_nil)⟩)⟩)⟩)⟩)⟩)⟩)⟩)⟩)⟩)⟩)⟩)⟩)⟩)⟩)⟩)⟩)⟩)⟩)⟩)⟩)⟩)⟩)⟩)⟩)
theorem hz_wsX12_raise_r2 : ∀ w ∈ wsX12_raise_r2, w ∈ lw_tbl := (List.forall_mem_cons.mpr ⟨mz_559, (List.forall_mem_cons.mpr ⟨mz_560, (List.forall_mem_cons.mpr ⟨mz_561, (List.forall_mem_cons.mpr ⟨mz_525, (List.forall_mem_cons.mpr ⟨mz_526, (List.forall_mem_cons.mpr ⟨mz_527, (List.forall_mem_cons.mpr ⟨mz_528, (List.forall_mem_cons.mpr ⟨mz_529, (List.forall_mem_cons.mpr ⟨mz_370, (List.forall_mem_cons.mpr ⟨mz_530, (List.forall_mem_cons.mpr ⟨mz_531, (List.forall_mem_cons.mpr ⟨mz_532, (List.forall_mem_cons.mpr ⟨mz_773, (List.forall_mem_cons.mpr ⟨mz_774, (List.forall_mem_cons.mpr ⟨mz_775, (List.forall_mem_cons.mpr ⟨mz_776, (fun _ h => absurd h List.not_mem_nil)⟩)⟩)⟩)⟩)⟩)⟩)⟩)⟩)⟩)⟩)⟩)⟩)⟩)⟩)⟩)⟩)
theorem hz_wsX12_raise : ∀ w ∈ wsX12_raise, w ∈ lw_tbl := (List.forall_mem_cons.mpr ⟨mz_788, (List.forall_mem_append.mpr ⟨(List.forall_mem_append.mpr ⟨hz_wsX12_raise_r1, hz_wsX12_raise_r2⟩), hz_wsX120⟩)⟩)
set_option maxRecDepth 100000 in
theorem mz_795 : Cond.methodLink RL 106 yX12_raise ∈ lw_tbl := lw_t6 _ (List.mem_of_getElem? (i := 171) rfl)
set_option maxRecDepth 100000 in
theorem mz_796 : Cond.instanceMethod yX12_raise ∈ lw_tbl := lw_t6 _ (List.mem_of_getElem? (i := 172) rfl)
set_option maxRecDepth 100000 in
theorem mz_797 : Cond.selects RX12 yX12_raise yX12_raise ∈ lw_tbl := lw_t6 _ (List.mem_of_getElem? (i := 173) rfl)
set_option maxRecDepth 100000 in
theorem mz_798 : Cond.code yX11_coup cX11_coup 5 (some .int) ∈ lw_tbl := lw_t4 _ (List.mem_of_getElem? (i := 123) rfl)
set_option maxRecDepth 100000 in
theorem mz_799 : Cond.fieldLink RX11 67 "LadleKings" "coups" "LLadleKings$Coups;" ∈ lw_tbl := lw_t2 _ (List.mem_of_getElem? (i := 129) rfl)
set_option maxRecDepth 100000 in
theorem mz_800 : Cond.methodLink RX11 238 yX2_serveAllKings ∈ lw_tbl := lw_t4 _ (List.mem_of_getElem? (i := 124) rfl)
theorem hz_wsX11_coup_r1 : ∀ w ∈ wsX11_coup_r1, w ∈ lw_tbl := (List.forall_mem_cons.mpr ⟨mz_38, (List.forall_mem_cons.mpr ⟨mz_489, (List.forall_mem_cons.mpr ⟨mz_799, (List.forall_mem_cons.mpr ⟨mz_406, (List.forall_mem_cons.mpr ⟨mz_407, (List.forall_mem_cons.mpr ⟨mz_408, (List.forall_mem_cons.mpr ⟨mz_65, (List.forall_mem_cons.mpr ⟨mz_409, (List.forall_mem_cons.mpr ⟨mz_67, (List.forall_mem_cons.mpr ⟨mz_434, (List.forall_mem_cons.mpr ⟨mz_435, (List.forall_mem_cons.mpr ⟨mz_436, (List.forall_mem_cons.mpr ⟨mz_437, (List.forall_mem_cons.mpr ⟨mz_68, (List.forall_mem_cons.mpr ⟨mz_604, (List.forall_mem_cons.mpr ⟨mz_605, (List.forall_mem_cons.mpr ⟨mz_14, (List.forall_mem_cons.mpr ⟨mz_606, (List.forall_mem_cons.mpr ⟨mz_800, (List.forall_mem_cons.mpr ⟨mz_622, (List.forall_mem_cons.mpr ⟨mz_623, (List.forall_mem_cons.mpr ⟨mz_493, (List.forall_mem_cons.mpr ⟨mz_624, (List.forall_mem_cons.mpr ⟨mz_495, (fun _ h => absurd h List.not_mem_nil)⟩)⟩)⟩)⟩)⟩)⟩)⟩)⟩)⟩)⟩)⟩)⟩)⟩)⟩)⟩)⟩)⟩)⟩)⟩)⟩)⟩)⟩)⟩)⟩)
theorem hz_wsX11_coup_r2 : ∀ w ∈ wsX11_coup_r2, w ∈ lw_tbl := (List.forall_mem_cons.mpr ⟨mz_496, (List.forall_mem_cons.mpr ⟨mz_575, (List.forall_mem_cons.mpr ⟨mz_491, (List.forall_mem_cons.mpr ⟨mz_492, (List.forall_mem_cons.mpr ⟨mz_494, (List.forall_mem_cons.mpr ⟨mz_497, (List.forall_mem_cons.mpr ⟨mz_498, (List.forall_mem_cons.mpr ⟨mz_499, (List.forall_mem_cons.mpr ⟨mz_500, (List.forall_mem_cons.mpr ⟨mz_255, (List.forall_mem_cons.mpr ⟨mz_256, (List.forall_mem_cons.mpr ⟨mz_257, (List.forall_mem_cons.mpr ⟨mz_501, (List.forall_mem_cons.mpr ⟨mz_242, (List.forall_mem_cons.mpr ⟨mz_243, (List.forall_mem_cons.mpr ⟨mz_77, (List.forall_mem_cons.mpr ⟨mz_244, (List.forall_mem_cons.mpr ⟨mz_80, (List.forall_mem_cons.mpr ⟨mz_502, (List.forall_mem_cons.mpr ⟨mz_503, (List.forall_mem_cons.mpr ⟨mz_504, (List.forall_mem_cons.mpr ⟨mz_505, (List.forall_mem_cons.mpr ⟨mz_506, (List.forall_mem_cons.mpr ⟨mz_507, (fun _ h => absurd h List.not_mem_nil)⟩)⟩)⟩)⟩)⟩)⟩)⟩)⟩)⟩)⟩)⟩)⟩)⟩)⟩)⟩)⟩)⟩)⟩)⟩)⟩)⟩)⟩)⟩)⟩)
set_option maxRecDepth 100000 in
theorem mz_801 : Cond.methodLink RX11 241 yX0_leastLeader ∈ lw_tbl := lw_t4 _ (List.mem_of_getElem? (i := 125) rfl)
set_option maxRecDepth 100000 in
theorem mz_802 : Cond.instanceMethod yX0_leastLeader ∈ lw_tbl := lw_t4 _ (List.mem_of_getElem? (i := 126) rfl)
set_option maxRecDepth 100000 in
theorem mz_803 : Cond.selects RX0 yX0_leastLeader yX0_leastLeader ∈ lw_tbl := lw_t4 _ (List.mem_of_getElem? (i := 127) rfl)
set_option maxRecDepth 100000 in
theorem mz_804 : Cond.initialized RX0 ∈ lw_tbl := lw_t1 _ (List.mem_of_getElem? (i := 10) rfl)
set_option maxRecDepth 100000 in
theorem mz_805 : Cond.code yX0_leastLeader cX0_leastLeader 3 (some .int) ∈ lw_tbl := lw_t4 _ (List.mem_of_getElem? (i := 128) rfl)
set_option maxRecDepth 100000 in
theorem mz_806 : Cond.fieldLink RX0 9 "LadleKings$Coups" "kitchen" "LLadleKings$Kitchen;" ∈ lw_tbl := lw_t2 _ (List.mem_of_getElem? (i := 48) rfl)
set_option maxRecDepth 100000 in
theorem mz_807 : Cond.fieldLink RX0 15 "LadleKings$Kitchen" "rules" "LLadleKings$Rules;" ∈ lw_tbl := lw_t1 _ (List.mem_of_getElem? (i := 220) rfl)
set_option maxRecDepth 100000 in
theorem mz_808 : Cond.fieldLink RX0 21 "LadleKings$Rules" "seats" "I" ∈ lw_tbl := lw_t1 _ (List.mem_of_getElem? (i := 38) rfl)
set_option maxRecDepth 100000 in
theorem mz_809 : Cond.methodLink RX0 27 yX0_canLead ∈ lw_tbl := lw_t4 _ (List.mem_of_getElem? (i := 129) rfl)
set_option maxRecDepth 100000 in
theorem mz_810 : Cond.instanceMethod yX0_canLead ∈ lw_tbl := lw_t4 _ (List.mem_of_getElem? (i := 131) rfl)
theorem mz_811 : Cond.selects RX0 yX0_canLead yX0_canLead ∈ lw_tbl := List.mem_of_getElem? (i := 23) (by decide +kernel)
set_option maxRecDepth 100000 in
theorem mz_812 : Cond.code yX0_canLead cX0_canLead 4 (some .boolean) ∈ lw_tbl := lw_t4 _ (List.mem_of_getElem? (i := 132) rfl)
set_option maxRecDepth 100000 in
theorem mz_813 : Cond.methodLink RX0 31 yX0_whoRise ∈ lw_tbl := lw_t4 _ (List.mem_of_getElem? (i := 133) rfl)
set_option maxRecDepth 100000 in
theorem mz_814 : Cond.instanceMethod yX0_whoRise ∈ lw_tbl := lw_t4 _ (List.mem_of_getElem? (i := 135) rfl)
theorem mz_815 : Cond.selects RX0 yX0_whoRise yX0_whoRise ∈ lw_tbl := List.mem_of_getElem? (i := 24) (by decide +kernel)
theorem hz_wsX11_coup_r3 : ∀ w ∈ wsX11_coup_r3, w ∈ lw_tbl := (List.forall_mem_cons.mpr ⟨mz_508, (List.forall_mem_cons.mpr ⟨mz_509, (List.forall_mem_cons.mpr ⟨mz_510, (List.forall_mem_cons.mpr ⟨mz_511, (List.forall_mem_cons.mpr ⟨mz_512, (List.forall_mem_cons.mpr ⟨mz_439, (List.forall_mem_cons.mpr ⟨mz_440, (List.forall_mem_cons.mpr ⟨mz_441, (List.forall_mem_cons.mpr ⟨mz_249, (List.forall_mem_cons.mpr ⟨mz_801, (List.forall_mem_cons.mpr ⟨mz_802, (List.forall_mem_cons.mpr ⟨mz_803, (List.forall_mem_cons.mpr ⟨mz_804, (List.forall_mem_cons.mpr ⟨mz_805, (List.forall_mem_cons.mpr ⟨mz_806, (List.forall_mem_cons.mpr ⟨mz_807, (List.forall_mem_cons.mpr ⟨mz_808, (List.forall_mem_cons.mpr ⟨mz_809, (List.forall_mem_cons.mpr ⟨mz_810, (List.forall_mem_cons.mpr ⟨mz_811, (List.forall_mem_cons.mpr ⟨mz_812, (List.forall_mem_cons.mpr ⟨mz_813, (List.forall_mem_cons.mpr ⟨mz_814, (List.forall_mem_cons.mpr ⟨mz_815, (fun _ h => absurd h List.not_mem_nil)⟩)⟩)⟩)⟩)⟩)⟩)⟩)⟩)⟩)⟩)⟩)⟩)⟩)⟩)⟩)⟩)⟩)⟩)⟩)⟩)⟩)⟩)⟩)⟩)
set_option maxRecDepth 100000 in
theorem mz_816 : Cond.code yX0_whoRise cX0_whoRise 5 (some .int) ∈ lw_tbl := lw_t4 _ (List.mem_of_getElem? (i := 136) rfl)
set_option maxRecDepth 100000 in
theorem mz_817 : Cond.methodLink RX0 39 yX2_bowlOf ∈ lw_tbl := lw_t4 _ (List.mem_of_getElem? (i := 137) rfl)
set_option maxRecDepth 100000 in
theorem mz_818 : Cond.methodLink RX0 35 yX0_isEnough ∈ lw_tbl := lw_t4 _ (List.mem_of_getElem? (i := 138) rfl)
set_option maxRecDepth 100000 in
theorem mz_819 : Cond.instanceMethod yX0_isEnough ∈ lw_tbl := lw_t4 _ (List.mem_of_getElem? (i := 140) rfl)
theorem mz_820 : Cond.selects RX0 yX0_isEnough yX0_isEnough ∈ lw_tbl := List.mem_of_getElem? (i := 25) (by decide +kernel)
set_option maxRecDepth 100000 in
theorem mz_821 : Cond.code yX0_isEnough cX0_isEnough 5 (some .boolean) ∈ lw_tbl := lw_t4 _ (List.mem_of_getElem? (i := 141) rfl)
set_option maxRecDepth 100000 in
theorem mz_822 : Cond.fieldLink RX0 42 "LadleKings$Kitchen" "state" "LLadleKings$State;" ∈ lw_tbl := lw_t1 _ (List.mem_of_getElem? (i := 229) rfl)
set_option maxRecDepth 100000 in
theorem mz_823 : Cond.fieldLink RX0 46 "LadleKings$State" "spoons" "[I" ∈ lw_tbl := lw_t1 _ (List.mem_of_getElem? (i := 91) rfl)
set_option maxRecDepth 100000 in
theorem mz_824 : Cond.methodLink RX11 244 yX0_leastBand ∈ lw_tbl := lw_t4 _ (List.mem_of_getElem? (i := 142) rfl)
set_option maxRecDepth 100000 in
theorem mz_825 : Cond.instanceMethod yX0_leastBand ∈ lw_tbl := lw_t4 _ (List.mem_of_getElem? (i := 143) rfl)
set_option maxRecDepth 100000 in
theorem mz_826 : Cond.selects RX0 yX0_leastBand yX0_leastBand ∈ lw_tbl := lw_t4 _ (List.mem_of_getElem? (i := 144) rfl)
set_option maxRecDepth 100000 in
theorem mz_827 : Cond.code yX0_leastBand cX0_leastBand 6 (some .int) ∈ lw_tbl := lw_t4 _ (List.mem_of_getElem? (i := 145) rfl)
theorem hz_wsX11_coup_r4 : ∀ w ∈ wsX11_coup_r4, w ∈ lw_tbl := (List.forall_mem_cons.mpr ⟨mz_816, (List.forall_mem_cons.mpr ⟨mz_817, (List.forall_mem_cons.mpr ⟨mz_514, (List.forall_mem_cons.mpr ⟨mz_515, (List.forall_mem_cons.mpr ⟨mz_516, (List.forall_mem_cons.mpr ⟨mz_517, (List.forall_mem_cons.mpr ⟨mz_518, (List.forall_mem_cons.mpr ⟨mz_519, (List.forall_mem_cons.mpr ⟨mz_520, (List.forall_mem_cons.mpr ⟨mz_818, (List.forall_mem_cons.mpr ⟨mz_819, (List.forall_mem_cons.mpr ⟨mz_820, (List.forall_mem_cons.mpr ⟨mz_821, (List.forall_mem_cons.mpr ⟨mz_822, (List.forall_mem_cons.mpr ⟨mz_823, (List.forall_mem_cons.mpr ⟨mz_824, (List.forall_mem_cons.mpr ⟨mz_825, (List.forall_mem_cons.mpr ⟨mz_826, (List.forall_mem_cons.mpr ⟨mz_827, (fun _ h => absurd h List.not_mem_nil)⟩)⟩)⟩)⟩)⟩)⟩)⟩)⟩)⟩)⟩)⟩)⟩)⟩)⟩)⟩)⟩)⟩)⟩)⟩)
set_option maxRecDepth 100000 in
theorem hz_wsX00 : ∀ w ∈ wsX00, w ∈ lw_tbl := fun w h => (goodIn_r (big := lw_tbl) wsX00 [363] rfl (by decide +kernel) w h).1
theorem hz_wsX11_coup : ∀ w ∈ wsX11_coup, w ∈ lw_tbl := (List.forall_mem_cons.mpr ⟨mz_798, (List.forall_mem_append.mpr ⟨(List.forall_mem_append.mpr ⟨(List.forall_mem_append.mpr ⟨(List.forall_mem_append.mpr ⟨(List.forall_mem_append.mpr ⟨(List.forall_mem_append.mpr ⟨hz_wsX11_coup_r1, (List.forall_mem_append.mpr ⟨hz_wsX11_coup_r2, (List.forall_mem_append.mpr ⟨hz_wsX11_coup_r3, hz_wsX11_coup_r4⟩)⟩)⟩), hz_wsX110⟩), hz_wsX60⟩), hz_wsX20⟩), hz_wsX80⟩), hz_wsX00⟩)⟩)
set_option maxRecDepth 100000 in
theorem mz_828 : Cond.methodLink RL 107 yX11_coup ∈ lw_tbl := lw_t4 _ (List.mem_of_getElem? (i := 120) rfl)
set_option maxRecDepth 100000 in
theorem mz_829 : Cond.instanceMethod yX11_coup ∈ lw_tbl := lw_t4 _ (List.mem_of_getElem? (i := 121) rfl)
set_option maxRecDepth 100000 in
theorem mz_830 : Cond.selects RX11 yX11_coup yX11_coup ∈ lw_tbl := lw_t4 _ (List.mem_of_getElem? (i := 122) rfl)
set_option maxRecDepth 100000 in
theorem mz_831 : Cond.code yX12_coup cX12_coup 5 (some .int) ∈ lw_tbl := lw_t6 _ (List.mem_of_getElem? (i := 183) rfl)
set_option maxRecDepth 100000 in
theorem mz_832 : Cond.methodLink RX12 285 yX12_leaderBy ∈ lw_tbl := lw_t6 _ (List.mem_of_getElem? (i := 184) rfl)
set_option maxRecDepth 100000 in
theorem mz_833 : Cond.instanceMethod yX12_leaderBy ∈ lw_tbl := lw_t6 _ (List.mem_of_getElem? (i := 186) rfl)
theorem mz_834 : Cond.selects RX12 yX12_leaderBy yX12_leaderBy ∈ lw_tbl := List.mem_of_getElem? (i := 66) (by decide +kernel)
set_option maxRecDepth 100000 in
theorem mz_835 : Cond.code yX12_leaderBy cX12_leaderBy 4 (some .int) ∈ lw_tbl := lw_t6 _ (List.mem_of_getElem? (i := 187) rfl)
set_option maxRecDepth 100000 in
theorem mz_836 : Cond.methodLink RX12 282 yX12_coupBy ∈ lw_tbl := lw_t6 _ (List.mem_of_getElem? (i := 188) rfl)
set_option maxRecDepth 100000 in
theorem mz_837 : Cond.instanceMethod yX12_coupBy ∈ lw_tbl := lw_t6 _ (List.mem_of_getElem? (i := 190) rfl)
theorem mz_838 : Cond.selects RX12 yX12_coupBy yX12_coupBy ∈ lw_tbl := List.mem_of_getElem? (i := 67) (by decide +kernel)
theorem hz_wsX12_coup_r1 : ∀ w ∈ wsX12_coup_r1, w ∈ lw_tbl := (List.forall_mem_cons.mpr ⟨mz_414, (List.forall_mem_cons.mpr ⟨mz_415, (List.forall_mem_cons.mpr ⟨mz_416, (List.forall_mem_cons.mpr ⟨mz_22, (List.forall_mem_cons.mpr ⟨mz_417, (List.forall_mem_cons.mpr ⟨mz_371, (List.forall_mem_cons.mpr ⟨mz_28, (List.forall_mem_cons.mpr ⟨mz_29, (List.forall_mem_cons.mpr ⟨mz_30, (List.forall_mem_cons.mpr ⟨mz_446, (List.forall_mem_cons.mpr ⟨mz_447, (List.forall_mem_cons.mpr ⟨mz_448, (List.forall_mem_cons.mpr ⟨mz_449, (List.forall_mem_cons.mpr ⟨mz_372, (List.forall_mem_cons.mpr ⟨mz_664, (List.forall_mem_cons.mpr ⟨mz_665, (List.forall_mem_cons.mpr ⟨mz_666, (List.forall_mem_cons.mpr ⟨mz_832, (List.forall_mem_cons.mpr ⟨mz_833, (List.forall_mem_cons.mpr ⟨mz_834, (List.forall_mem_cons.mpr ⟨mz_835, (List.forall_mem_cons.mpr ⟨mz_836, (List.forall_mem_cons.mpr ⟨mz_837, (List.forall_mem_cons.mpr ⟨mz_838, (fun _ h => absurd h List.not_mem_nil)⟩)⟩)⟩)⟩)⟩)⟩)⟩)⟩)⟩)⟩)⟩)⟩)⟩)⟩)⟩)⟩)⟩)⟩)⟩)⟩)⟩)⟩)⟩)⟩)
set_option maxRecDepth 100000 in
theorem mz_839 : Cond.code yX12_coupBy cX12_coupBy 7 (some .int) ∈ lw_tbl := lw_t6 _ (List.mem_of_getElem? (i := 191) rfl)
set_option maxRecDepth 100000 in
theorem mz_840 : Cond.fieldLink RX12 57 "LadleKingsModel" "has" "[I" ∈ lw_tbl := lw_t5 _ (List.mem_of_getElem? (i := 104) rfl)
set_option maxRecDepth 100000 in
theorem mz_841 : Cond.fieldLink RX12 54 "LadleKingsModel" "bowls" "[I" ∈ lw_tbl := lw_t5 _ (List.mem_of_getElem? (i := 103) rfl)
set_option maxRecDepth 100000 in
theorem mz_842 : Cond.methodLink RX12 275 yX12_findBowls ∈ lw_tbl := lw_t6 _ (List.mem_of_getElem? (i := 192) rfl)
set_option maxRecDepth 100000 in
theorem mz_843 : Cond.instanceMethod yX12_findBowls ∈ lw_tbl := lw_t6 _ (List.mem_of_getElem? (i := 194) rfl)
theorem mz_844 : Cond.selects RX12 yX12_findBowls yX12_findBowls ∈ lw_tbl := List.mem_of_getElem? (i := 68) (by decide +kernel)
set_option maxRecDepth 100000 in
theorem mz_845 : Cond.code yX12_findBowls cX12_findBowls 4 none ∈ lw_tbl := lw_t6 _ (List.mem_of_getElem? (i := 195) rfl)
set_option maxRecDepth 100000 in
theorem mz_846 : Cond.methodLink RX12 279 yX12_spoonsOf ∈ lw_tbl := lw_t6 _ (List.mem_of_getElem? (i := 196) rfl)
set_option maxRecDepth 100000 in
theorem mz_847 : Cond.instanceMethod yX12_spoonsOf ∈ lw_tbl := lw_t6 _ (List.mem_of_getElem? (i := 198) rfl)
theorem mz_848 : Cond.selects RX12 yX12_spoonsOf yX12_spoonsOf ∈ lw_tbl := List.mem_of_getElem? (i := 69) (by decide +kernel)
theorem hz_wsX12_coup_r2 : ∀ w ∈ wsX12_coup_r2, w ∈ lw_tbl := (List.forall_mem_cons.mpr ⟨mz_839, (List.forall_mem_cons.mpr ⟨mz_840, (List.forall_mem_cons.mpr ⟨mz_841, (List.forall_mem_cons.mpr ⟨mz_842, (List.forall_mem_cons.mpr ⟨mz_843, (List.forall_mem_cons.mpr ⟨mz_844, (List.forall_mem_cons.mpr ⟨mz_845, (List.forall_mem_cons.mpr ⟨mz_370, (List.forall_mem_cons.mpr ⟨mz_525, (List.forall_mem_cons.mpr ⟨mz_526, (List.forall_mem_cons.mpr ⟨mz_527, (List.forall_mem_cons.mpr ⟨mz_528, (List.forall_mem_cons.mpr ⟨mz_529, (List.forall_mem_cons.mpr ⟨mz_530, (List.forall_mem_cons.mpr ⟨mz_531, (List.forall_mem_cons.mpr ⟨mz_532, (List.forall_mem_cons.mpr ⟨mz_533, (List.forall_mem_cons.mpr ⟨mz_534, (List.forall_mem_cons.mpr ⟨mz_535, (List.forall_mem_cons.mpr ⟨mz_536, (List.forall_mem_cons.mpr ⟨mz_374, (List.forall_mem_cons.mpr ⟨mz_846, (List.forall_mem_cons.mpr ⟨mz_847, (List.forall_mem_cons.mpr ⟨mz_848, (fun _ h => absurd h List.not_mem_nil)⟩)⟩)⟩)⟩)⟩)⟩)⟩)⟩)⟩)⟩)⟩)⟩)⟩)⟩)⟩)⟩)⟩)⟩)⟩)⟩)⟩)⟩)⟩)⟩)
set_option maxRecDepth 100000 in
theorem mz_849 : Cond.code yX12_spoonsOf cX12_spoonsOf 4 (some .int) ∈ lw_tbl := lw_t6 _ (List.mem_of_getElem? (i := 199) rfl)
theorem hz_wsX12_coup_r3 : ∀ w ∈ wsX12_coup_r3, w ∈ lw_tbl := (List.forall_mem_cons.mpr ⟨mz_849, (fun _ h => absurd h List.not_mem_nil)⟩)
theorem hz_wsX12_coup : ∀ w ∈ wsX12_coup, w ∈ lw_tbl := (List.forall_mem_cons.mpr ⟨mz_831, (List.forall_mem_append.mpr ⟨(List.forall_mem_append.mpr ⟨hz_wsX12_coup_r1, (List.forall_mem_append.mpr ⟨hz_wsX12_coup_r2, hz_wsX12_coup_r3⟩)⟩), hz_wsX120⟩)⟩)
set_option maxRecDepth 100000 in
theorem mz_850 : Cond.methodLink RL 110 yX12_coup ∈ lw_tbl := lw_t6 _ (List.mem_of_getElem? (i := 180) rfl)
set_option maxRecDepth 100000 in
theorem mz_851 : Cond.instanceMethod yX12_coup ∈ lw_tbl := lw_t6 _ (List.mem_of_getElem? (i := 181) rfl)
set_option maxRecDepth 100000 in
theorem mz_852 : Cond.selects RX12 yX12_coup yX12_coup ∈ lw_tbl := lw_t6 _ (List.mem_of_getElem? (i := 182) rfl)
set_option maxRecDepth 100000 in
theorem mz_853 : Cond.code yX11_firm cX11_firm 4 (some .int) ∈ lw_tbl := lw_t4 _ (List.mem_of_getElem? (i := 149) rfl)
theorem hz_wsX11_firm_r1 : ∀ w ∈ wsX11_firm_r1, w ∈ lw_tbl := (List.forall_mem_cons.mpr ⟨mz_38, (List.forall_mem_cons.mpr ⟨mz_489, (List.forall_mem_cons.mpr ⟨mz_392, (List.forall_mem_cons.mpr ⟨mz_799, (List.forall_mem_cons.mpr ⟨mz_434, (List.forall_mem_cons.mpr ⟨mz_435, (List.forall_mem_cons.mpr ⟨mz_436, (List.forall_mem_cons.mpr ⟨mz_65, (List.forall_mem_cons.mpr ⟨mz_437, (List.forall_mem_cons.mpr ⟨mz_68, (List.forall_mem_cons.mpr ⟨mz_800, (List.forall_mem_cons.mpr ⟨mz_622, (List.forall_mem_cons.mpr ⟨mz_623, (List.forall_mem_cons.mpr ⟨mz_493, (List.forall_mem_cons.mpr ⟨mz_624, (List.forall_mem_cons.mpr ⟨mz_495, (List.forall_mem_cons.mpr ⟨mz_496, (List.forall_mem_cons.mpr ⟨mz_575, (List.forall_mem_cons.mpr ⟨mz_491, (List.forall_mem_cons.mpr ⟨mz_492, (List.forall_mem_cons.mpr ⟨mz_494, (List.forall_mem_cons.mpr ⟨mz_497, (List.forall_mem_cons.mpr ⟨mz_498, (List.forall_mem_cons.mpr ⟨mz_499, (fun _ h => absurd h List.not_mem_nil)⟩)⟩)⟩)⟩)⟩)⟩)⟩)⟩)⟩)⟩)⟩)⟩)⟩)⟩)⟩)⟩)⟩)⟩)⟩)⟩)⟩)⟩)⟩)⟩)
theorem hz_wsX11_firm_r2 : ∀ w ∈ wsX11_firm_r2, w ∈ lw_tbl := (List.forall_mem_cons.mpr ⟨mz_500, (List.forall_mem_cons.mpr ⟨mz_255, (List.forall_mem_cons.mpr ⟨mz_256, (List.forall_mem_cons.mpr ⟨mz_257, (List.forall_mem_cons.mpr ⟨mz_67, (List.forall_mem_cons.mpr ⟨mz_501, (List.forall_mem_cons.mpr ⟨mz_242, (List.forall_mem_cons.mpr ⟨mz_243, (List.forall_mem_cons.mpr ⟨mz_77, (List.forall_mem_cons.mpr ⟨mz_244, (List.forall_mem_cons.mpr ⟨mz_80, (List.forall_mem_cons.mpr ⟨mz_502, (List.forall_mem_cons.mpr ⟨mz_503, (List.forall_mem_cons.mpr ⟨mz_504, (List.forall_mem_cons.mpr ⟨mz_505, (List.forall_mem_cons.mpr ⟨mz_506, (List.forall_mem_cons.mpr ⟨mz_507, (List.forall_mem_cons.mpr ⟨mz_508, (List.forall_mem_cons.mpr ⟨mz_509, (List.forall_mem_cons.mpr ⟨mz_510, (List.forall_mem_cons.mpr ⟨mz_511, (List.forall_mem_cons.mpr ⟨mz_512, (List.forall_mem_cons.mpr ⟨mz_439, (List.forall_mem_cons.mpr ⟨mz_440, (fun _ h => absurd h List.not_mem_nil)⟩)⟩)⟩)⟩)⟩)⟩)⟩)⟩)⟩)⟩)⟩)⟩)⟩)⟩)⟩)⟩)⟩)⟩)⟩)⟩)⟩)⟩)⟩)⟩)
theorem hz_wsX11_firm_r3 : ∀ w ∈ wsX11_firm_r3, w ∈ lw_tbl := (List.forall_mem_cons.mpr ⟨mz_441, (List.forall_mem_cons.mpr ⟨mz_249, (List.forall_mem_cons.mpr ⟨mz_801, (List.forall_mem_cons.mpr ⟨mz_802, (List.forall_mem_cons.mpr ⟨mz_803, (List.forall_mem_cons.mpr ⟨mz_804, (List.forall_mem_cons.mpr ⟨mz_805, (List.forall_mem_cons.mpr ⟨mz_806, (List.forall_mem_cons.mpr ⟨mz_807, (List.forall_mem_cons.mpr ⟨mz_808, (List.forall_mem_cons.mpr ⟨mz_809, (List.forall_mem_cons.mpr ⟨mz_810, (List.forall_mem_cons.mpr ⟨mz_811, (List.forall_mem_cons.mpr ⟨mz_812, (List.forall_mem_cons.mpr ⟨mz_813, (List.forall_mem_cons.mpr ⟨mz_814, (List.forall_mem_cons.mpr ⟨mz_815, (List.forall_mem_cons.mpr ⟨mz_816, (List.forall_mem_cons.mpr ⟨mz_817, (List.forall_mem_cons.mpr ⟨mz_514, (List.forall_mem_cons.mpr ⟨mz_515, (List.forall_mem_cons.mpr ⟨mz_516, (List.forall_mem_cons.mpr ⟨mz_517, (List.forall_mem_cons.mpr ⟨mz_518, (fun _ h => absurd h List.not_mem_nil)⟩)⟩)⟩)⟩)⟩)⟩)⟩)⟩)⟩)⟩)⟩)⟩)⟩)⟩)⟩)⟩)⟩)⟩)⟩)⟩)⟩)⟩)⟩)⟩)
theorem hz_wsX11_firm_r4 : ∀ w ∈ wsX11_firm_r4, w ∈ lw_tbl := (List.forall_mem_cons.mpr ⟨mz_519, (List.forall_mem_cons.mpr ⟨mz_520, (List.forall_mem_cons.mpr ⟨mz_818, (List.forall_mem_cons.mpr ⟨mz_819, (List.forall_mem_cons.mpr ⟨mz_820, (List.forall_mem_cons.mpr ⟨mz_821, (List.forall_mem_cons.mpr ⟨mz_822, (List.forall_mem_cons.mpr ⟨mz_823, (fun _ h => absurd h List.not_mem_nil)⟩)⟩)⟩)⟩)⟩)⟩)⟩)⟩)
theorem hz_wsX11_firm : ∀ w ∈ wsX11_firm, w ∈ lw_tbl := (List.forall_mem_cons.mpr ⟨mz_853, (List.forall_mem_append.mpr ⟨(List.forall_mem_append.mpr ⟨(List.forall_mem_append.mpr ⟨(List.forall_mem_append.mpr ⟨(List.forall_mem_append.mpr ⟨(List.forall_mem_append.mpr ⟨hz_wsX11_firm_r1, (List.forall_mem_append.mpr ⟨hz_wsX11_firm_r2, (List.forall_mem_append.mpr ⟨hz_wsX11_firm_r3, hz_wsX11_firm_r4⟩)⟩)⟩), hz_wsX110⟩), hz_wsX60⟩), hz_wsX20⟩), hz_wsX80⟩), hz_wsX00⟩)⟩)
set_option maxRecDepth 100000 in
theorem mz_854 : Cond.methodLink RL 111 yX11_firm ∈ lw_tbl := lw_t4 _ (List.mem_of_getElem? (i := 146) rfl)
set_option maxRecDepth 100000 in
theorem mz_855 : Cond.instanceMethod yX11_firm ∈ lw_tbl := lw_t4 _ (List.mem_of_getElem? (i := 147) rfl)
set_option maxRecDepth 100000 in
theorem mz_856 : Cond.selects RX11 yX11_firm yX11_firm ∈ lw_tbl := lw_t4 _ (List.mem_of_getElem? (i := 148) rfl)
set_option maxRecDepth 100000 in
theorem mz_857 : Cond.code yX12_firm cX12_firm 4 (some .int) ∈ lw_tbl := lw_t6 _ (List.mem_of_getElem? (i := 203) rfl)
theorem hz_wsX12_firm_r1 : ∀ w ∈ wsX12_firm_r1, w ∈ lw_tbl := (List.forall_mem_cons.mpr ⟨mz_371, (List.forall_mem_cons.mpr ⟨mz_446, (List.forall_mem_cons.mpr ⟨mz_447, (List.forall_mem_cons.mpr ⟨mz_448, (List.forall_mem_cons.mpr ⟨mz_22, (List.forall_mem_cons.mpr ⟨mz_449, (List.forall_mem_cons.mpr ⟨mz_372, (List.forall_mem_cons.mpr ⟨mz_28, (List.forall_mem_cons.mpr ⟨mz_29, (List.forall_mem_cons.mpr ⟨mz_30, (List.forall_mem_cons.mpr ⟨mz_832, (List.forall_mem_cons.mpr ⟨mz_833, (List.forall_mem_cons.mpr ⟨mz_834, (List.forall_mem_cons.mpr ⟨mz_835, (List.forall_mem_cons.mpr ⟨mz_836, (List.forall_mem_cons.mpr ⟨mz_837, (List.forall_mem_cons.mpr ⟨mz_838, (List.forall_mem_cons.mpr ⟨mz_839, (List.forall_mem_cons.mpr ⟨mz_840, (List.forall_mem_cons.mpr ⟨mz_841, (List.forall_mem_cons.mpr ⟨mz_842, (List.forall_mem_cons.mpr ⟨mz_843, (List.forall_mem_cons.mpr ⟨mz_844, (List.forall_mem_cons.mpr ⟨mz_845, (fun _ h => absurd h List.not_mem_nil)⟩)⟩)⟩)⟩)⟩)⟩)⟩)⟩)⟩)⟩)⟩)⟩)⟩)⟩)⟩)⟩)⟩)⟩)⟩)⟩)⟩)⟩)⟩)⟩)
theorem hz_wsX12_firm_r2 : ∀ w ∈ wsX12_firm_r2, w ∈ lw_tbl := (List.forall_mem_cons.mpr ⟨mz_370, (List.forall_mem_cons.mpr ⟨mz_525, (List.forall_mem_cons.mpr ⟨mz_526, (List.forall_mem_cons.mpr ⟨mz_527, (List.forall_mem_cons.mpr ⟨mz_528, (List.forall_mem_cons.mpr ⟨mz_529, (List.forall_mem_cons.mpr ⟨mz_530, (List.forall_mem_cons.mpr ⟨mz_531, (List.forall_mem_cons.mpr ⟨mz_532, (List.forall_mem_cons.mpr ⟨mz_533, (List.forall_mem_cons.mpr ⟨mz_534, (List.forall_mem_cons.mpr ⟨mz_535, (List.forall_mem_cons.mpr ⟨mz_536, (List.forall_mem_cons.mpr ⟨mz_374, (List.forall_mem_cons.mpr ⟨mz_846, (List.forall_mem_cons.mpr ⟨mz_847, (List.forall_mem_cons.mpr ⟨mz_848, (List.forall_mem_cons.mpr ⟨mz_849, (fun _ h => absurd h List.not_mem_nil)⟩)⟩)⟩)⟩)⟩)⟩)⟩)⟩)⟩)⟩)⟩)⟩)⟩)⟩)⟩)⟩)⟩)⟩)
theorem hz_wsX12_firm : ∀ w ∈ wsX12_firm, w ∈ lw_tbl := (List.forall_mem_cons.mpr ⟨mz_857, (List.forall_mem_append.mpr ⟨(List.forall_mem_append.mpr ⟨hz_wsX12_firm_r1, hz_wsX12_firm_r2⟩), hz_wsX120⟩)⟩)
set_option maxRecDepth 100000 in
theorem mz_858 : Cond.methodLink RL 114 yX12_firm ∈ lw_tbl := lw_t6 _ (List.mem_of_getElem? (i := 200) rfl)
set_option maxRecDepth 100000 in
theorem mz_859 : Cond.instanceMethod yX12_firm ∈ lw_tbl := lw_t6 _ (List.mem_of_getElem? (i := 201) rfl)
set_option maxRecDepth 100000 in
theorem mz_860 : Cond.selects RX12 yX12_firm yX12_firm ∈ lw_tbl := lw_t6 _ (List.mem_of_getElem? (i := 202) rfl)
set_option maxRecDepth 100000 in
theorem mz_861 : Cond.code yX11_see cX11_see 2 (some .int) ∈ lw_tbl := lw_t4 _ (List.mem_of_getElem? (i := 153) rfl)
set_option maxRecDepth 100000 in
theorem mz_862 : Cond.fieldLink RX11 247 "LadleKings$State" "seenDays" "I" ∈ lw_tbl := lw_t1 _ (List.mem_of_getElem? (i := 102) rfl)
set_option maxRecDepth 100000 in
theorem mz_863 : Cond.fieldLink RX11 250 "LadleKings$State" "seen" "[I" ∈ lw_tbl := lw_t1 _ (List.mem_of_getElem? (i := 99) rfl)
theorem hz_wsX11_see : ∀ w ∈ wsX11_see, w ∈ lw_tbl := (List.forall_mem_cons.mpr ⟨mz_861, (List.forall_mem_append.mpr ⟨(List.forall_mem_append.mpr ⟨(List.forall_mem_append.mpr ⟨(List.forall_mem_cons.mpr ⟨mz_38, (List.forall_mem_cons.mpr ⟨mz_40, (List.forall_mem_cons.mpr ⟨mz_862, (List.forall_mem_cons.mpr ⟨mz_863, (List.forall_mem_cons.mpr ⟨mz_406, (List.forall_mem_cons.mpr ⟨mz_407, (List.forall_mem_cons.mpr ⟨mz_408, (List.forall_mem_cons.mpr ⟨mz_65, (List.forall_mem_cons.mpr ⟨mz_409, (List.forall_mem_cons.mpr ⟨mz_67, (fun _ h => absurd h List.not_mem_nil)⟩)⟩)⟩)⟩)⟩)⟩)⟩)⟩)⟩)⟩), hz_wsX110⟩), hz_wsX80⟩), hz_wsX60⟩)⟩)
set_option maxRecDepth 100000 in
theorem mz_864 : Cond.methodLink RL 115 yX11_see ∈ lw_tbl := lw_t4 _ (List.mem_of_getElem? (i := 150) rfl)
set_option maxRecDepth 100000 in
theorem mz_865 : Cond.instanceMethod yX11_see ∈ lw_tbl := lw_t4 _ (List.mem_of_getElem? (i := 151) rfl)
set_option maxRecDepth 100000 in
theorem mz_866 : Cond.selects RX11 yX11_see yX11_see ∈ lw_tbl := lw_t4 _ (List.mem_of_getElem? (i := 152) rfl)
set_option maxRecDepth 100000 in
theorem mz_867 : Cond.code yX12_see cX12_see 2 (some .int) ∈ lw_tbl := lw_t6 _ (List.mem_of_getElem? (i := 207) rfl)
theorem hz_wsX12_see : ∀ w ∈ wsX12_see, w ∈ lw_tbl := (List.forall_mem_cons.mpr ⟨mz_867, (List.forall_mem_append.mpr ⟨(List.forall_mem_cons.mpr ⟨mz_370, (List.forall_mem_cons.mpr ⟨mz_414, (List.forall_mem_cons.mpr ⟨mz_415, (List.forall_mem_cons.mpr ⟨mz_416, (List.forall_mem_cons.mpr ⟨mz_22, (List.forall_mem_cons.mpr ⟨mz_417, (List.forall_mem_cons.mpr ⟨mz_371, (List.forall_mem_cons.mpr ⟨mz_28, (List.forall_mem_cons.mpr ⟨mz_29, (List.forall_mem_cons.mpr ⟨mz_30, (fun _ h => absurd h List.not_mem_nil)⟩)⟩)⟩)⟩)⟩)⟩)⟩)⟩)⟩)⟩), hz_wsX120⟩)⟩)
set_option maxRecDepth 100000 in
theorem mz_868 : Cond.methodLink RL 118 yX12_see ∈ lw_tbl := lw_t6 _ (List.mem_of_getElem? (i := 204) rfl)
set_option maxRecDepth 100000 in
theorem mz_869 : Cond.instanceMethod yX12_see ∈ lw_tbl := lw_t6 _ (List.mem_of_getElem? (i := 205) rfl)
set_option maxRecDepth 100000 in
theorem mz_870 : Cond.selects RX12 yX12_see yX12_see ∈ lw_tbl := lw_t6 _ (List.mem_of_getElem? (i := 206) rfl)
set_option maxRecDepth 100000 in
theorem mz_871 : Cond.code yX11_forget cX11_forget 3 (some .int) ∈ lw_tbl := lw_t4 _ (List.mem_of_getElem? (i := 157) rfl)
theorem hz_wsX11_forget : ∀ w ∈ wsX11_forget, w ∈ lw_tbl := (List.forall_mem_cons.mpr ⟨mz_871, (List.forall_mem_append.mpr ⟨(List.forall_mem_append.mpr ⟨(List.forall_mem_cons.mpr ⟨mz_40, (List.forall_mem_cons.mpr ⟨mz_862, (fun _ h => absurd h List.not_mem_nil)⟩)⟩), hz_wsX110⟩), hz_wsX80⟩)⟩)
set_option maxRecDepth 100000 in
theorem mz_872 : Cond.methodLink RL 119 yX11_forget ∈ lw_tbl := lw_t4 _ (List.mem_of_getElem? (i := 154) rfl)
set_option maxRecDepth 100000 in
theorem mz_873 : Cond.instanceMethod yX11_forget ∈ lw_tbl := lw_t4 _ (List.mem_of_getElem? (i := 155) rfl)
set_option maxRecDepth 100000 in
theorem mz_874 : Cond.selects RX11 yX11_forget yX11_forget ∈ lw_tbl := lw_t4 _ (List.mem_of_getElem? (i := 156) rfl)
set_option maxRecDepth 100000 in
theorem mz_875 : Cond.code yX12_forget cX12_forget 3 (some .int) ∈ lw_tbl := lw_t6 _ (List.mem_of_getElem? (i := 211) rfl)
theorem hz_wsX12_forget : ∀ w ∈ wsX12_forget, w ∈ lw_tbl := (List.forall_mem_cons.mpr ⟨mz_875, (List.forall_mem_append.mpr ⟨(List.forall_mem_cons.mpr ⟨mz_370, (List.forall_mem_cons.mpr ⟨mz_28, (List.forall_mem_cons.mpr ⟨mz_29, (List.forall_mem_cons.mpr ⟨mz_22, (List.forall_mem_cons.mpr ⟨mz_30, (fun _ h => absurd h List.not_mem_nil)⟩)⟩)⟩)⟩)⟩), hz_wsX120⟩)⟩)
set_option maxRecDepth 100000 in
theorem mz_876 : Cond.methodLink RL 122 yX12_forget ∈ lw_tbl := lw_t6 _ (List.mem_of_getElem? (i := 208) rfl)
set_option maxRecDepth 100000 in
theorem mz_877 : Cond.instanceMethod yX12_forget ∈ lw_tbl := lw_t6 _ (List.mem_of_getElem? (i := 209) rfl)
set_option maxRecDepth 100000 in
theorem mz_878 : Cond.selects RX12 yX12_forget yX12_forget ∈ lw_tbl := lw_t6 _ (List.mem_of_getElem? (i := 210) rfl)
set_option maxRecDepth 100000 in
theorem mz_879 : Cond.code yX11_histories cX11_histories 2 (some .int) ∈ lw_tbl := lw_t4 _ (List.mem_of_getElem? (i := 161) rfl)
set_option maxRecDepth 100000 in
theorem mz_880 : Cond.fieldLink RX11 74 "LadleKings" "past" "LLadleKings$Past;" ∈ lw_tbl := lw_t2 _ (List.mem_of_getElem? (i := 130) rfl)
set_option maxRecDepth 100000 in
theorem mz_881 : Cond.methodLink RX11 253 yX4_howMany ∈ lw_tbl := lw_t4 _ (List.mem_of_getElem? (i := 162) rfl)
set_option maxRecDepth 100000 in
theorem mz_882 : Cond.instanceMethod yX4_howMany ∈ lw_tbl := lw_t4 _ (List.mem_of_getElem? (i := 163) rfl)
set_option maxRecDepth 100000 in
theorem mz_883 : Cond.selects RX4 yX4_howMany yX4_howMany ∈ lw_tbl := lw_t4 _ (List.mem_of_getElem? (i := 164) rfl)
set_option maxRecDepth 100000 in
theorem mz_884 : Cond.initialized RX4 ∈ lw_tbl := lw_t1 _ (List.mem_of_getElem? (i := 11) rfl)
set_option maxRecDepth 100000 in
theorem mz_885 : Cond.code yX4_howMany cX4_howMany 7 (some .int) ∈ lw_tbl := lw_t4 _ (List.mem_of_getElem? (i := 165) rfl)
set_option maxRecDepth 100000 in
theorem mz_886 : Cond.fieldLink RX4 15 "LadleKings$Past" "kitchen" "LLadleKings$Kitchen;" ∈ lw_tbl := lw_t2 _ (List.mem_of_getElem? (i := 58) rfl)
set_option maxRecDepth 100000 in
theorem mz_887 : Cond.fieldLink RX4 19 "LadleKings$Kitchen" "state" "LLadleKings$State;" ∈ lw_tbl := lw_t1 _ (List.mem_of_getElem? (i := 226) rfl)
set_option maxRecDepth 100000 in
theorem mz_888 : Cond.fieldLink RX4 25 "LadleKings$State" "king" "I" ∈ lw_tbl := lw_t1 _ (List.mem_of_getElem? (i := 112) rfl)
set_option maxRecDepth 100000 in
theorem mz_889 : Cond.fieldLink RX4 31 "LadleKings$State" "bone" "I" ∈ lw_tbl := lw_t1 _ (List.mem_of_getElem? (i := 104) rfl)
set_option maxRecDepth 100000 in
theorem mz_890 : Cond.fieldLink RX4 34 "LadleKings$State" "seenDays" "I" ∈ lw_tbl := lw_t1 _ (List.mem_of_getElem? (i := 101) rfl)
set_option maxRecDepth 100000 in
theorem mz_891 : Cond.fieldLink RX4 37 "LadleKings$State" "seen" "[I" ∈ lw_tbl := lw_t1 _ (List.mem_of_getElem? (i := 98) rfl)
set_option maxRecDepth 100000 in
theorem mz_892 : Cond.fieldLink RX4 9 "LadleKings$Past" "fitting" "[I" ∈ lw_tbl := lw_t2 _ (List.mem_of_getElem? (i := 59) rfl)
set_option maxRecDepth 100000 in
theorem mz_893 : Cond.methodLink RX4 40 yX2_serve ∈ lw_tbl := lw_t4 _ (List.mem_of_getElem? (i := 166) rfl)
theorem hz_wsX11_histories_r1 : ∀ w ∈ wsX11_histories_r1, w ∈ lw_tbl := (List.forall_mem_cons.mpr ⟨mz_880, (List.forall_mem_cons.mpr ⟨mz_708, (List.forall_mem_cons.mpr ⟨mz_709, (List.forall_mem_cons.mpr ⟨mz_14, (List.forall_mem_cons.mpr ⟨mz_710, (List.forall_mem_cons.mpr ⟨mz_881, (List.forall_mem_cons.mpr ⟨mz_882, (List.forall_mem_cons.mpr ⟨mz_883, (List.forall_mem_cons.mpr ⟨mz_884, (List.forall_mem_cons.mpr ⟨mz_885, (List.forall_mem_cons.mpr ⟨mz_886, (List.forall_mem_cons.mpr ⟨mz_887, (List.forall_mem_cons.mpr ⟨mz_888, (List.forall_mem_cons.mpr ⟨mz_889, (List.forall_mem_cons.mpr ⟨mz_890, (List.forall_mem_cons.mpr ⟨mz_891, (List.forall_mem_cons.mpr ⟨mz_892, (List.forall_mem_cons.mpr ⟨mz_893, (List.forall_mem_cons.mpr ⟨mz_491, (List.forall_mem_cons.mpr ⟨mz_492, (List.forall_mem_cons.mpr ⟨mz_493, (List.forall_mem_cons.mpr ⟨mz_494, (List.forall_mem_cons.mpr ⟨mz_495, (List.forall_mem_cons.mpr ⟨mz_496, (fun _ h => absurd h List.not_mem_nil)⟩)⟩)⟩)⟩)⟩)⟩)⟩)⟩)⟩)⟩)⟩)⟩)⟩)⟩)⟩)⟩)⟩)⟩)⟩)⟩)⟩)⟩)⟩)⟩)
set_option maxRecDepth 100000 in
theorem mz_894 : Cond.methodLink RX4 44 yX2_placeOf ∈ lw_tbl := lw_t4 _ (List.mem_of_getElem? (i := 167) rfl)
set_option maxRecDepth 100000 in
theorem mz_895 : Cond.methodLink RX4 48 yX4_stirsBringing ∈ lw_tbl := lw_t4 _ (List.mem_of_getElem? (i := 168) rfl)
set_option maxRecDepth 100000 in
theorem mz_896 : Cond.instanceMethod yX4_stirsBringing ∈ lw_tbl := lw_t4 _ (List.mem_of_getElem? (i := 170) rfl)
theorem mz_897 : Cond.selects RX4 yX4_stirsBringing yX4_stirsBringing ∈ lw_tbl := List.mem_of_getElem? (i := 26) (by decide +kernel)
set_option maxRecDepth 100000 in
theorem mz_898 : Cond.code yX4_stirsBringing cX4_stirsBringing 5 (some .int) ∈ lw_tbl := lw_t4 _ (List.mem_of_getElem? (i := 171) rfl)
set_option maxRecDepth 100000 in
theorem mz_899 : Cond.fieldLink RX4 57 "LadleKings$Kitchen" "rules" "LLadleKings$Rules;" ∈ lw_tbl := lw_t1 _ (List.mem_of_getElem? (i := 221) rfl)
theorem hz_wsX11_histories_r2 : ∀ w ∈ wsX11_histories_r2, w ∈ lw_tbl := (List.forall_mem_cons.mpr ⟨mz_497, (List.forall_mem_cons.mpr ⟨mz_498, (List.forall_mem_cons.mpr ⟨mz_499, (List.forall_mem_cons.mpr ⟨mz_500, (List.forall_mem_cons.mpr ⟨mz_255, (List.forall_mem_cons.mpr ⟨mz_256, (List.forall_mem_cons.mpr ⟨mz_65, (List.forall_mem_cons.mpr ⟨mz_257, (List.forall_mem_cons.mpr ⟨mz_67, (List.forall_mem_cons.mpr ⟨mz_501, (List.forall_mem_cons.mpr ⟨mz_242, (List.forall_mem_cons.mpr ⟨mz_243, (List.forall_mem_cons.mpr ⟨mz_77, (List.forall_mem_cons.mpr ⟨mz_244, (List.forall_mem_cons.mpr ⟨mz_80, (List.forall_mem_cons.mpr ⟨mz_894, (List.forall_mem_cons.mpr ⟨mz_518, (List.forall_mem_cons.mpr ⟨mz_519, (List.forall_mem_cons.mpr ⟨mz_520, (List.forall_mem_cons.mpr ⟨mz_895, (List.forall_mem_cons.mpr ⟨mz_896, (List.forall_mem_cons.mpr ⟨mz_897, (List.forall_mem_cons.mpr ⟨mz_898, (List.forall_mem_cons.mpr ⟨mz_899, (fun _ h => absurd h List.not_mem_nil)⟩)⟩)⟩)⟩)⟩)⟩)⟩)⟩)⟩)⟩)⟩)⟩)⟩)⟩)⟩)⟩)⟩)⟩)⟩)⟩)⟩)⟩)⟩)⟩)
set_option maxRecDepth 100000 in
theorem mz_900 : Cond.fieldLink RX4 61 "LadleKings$Rules" "stirs" "I" ∈ lw_tbl := lw_t1 _ (List.mem_of_getElem? (i := 45) rfl)
set_option maxRecDepth 100000 in
theorem mz_901 : Cond.methodLink RX4 66 yX6_placeAfter ∈ lw_tbl := lw_t4 _ (List.mem_of_getElem? (i := 172) rfl)
set_option maxRecDepth 100000 in
theorem mz_902 : Cond.methodLink RX4 51 yJ6_bitCount_0f7a4 ∈ lw_tbl := lw_t4 _ (List.mem_of_getElem? (i := 173) rfl)
set_option maxRecDepth 100000 in
theorem mz_903 : Cond.static yJ6_bitCount_0f7a4 ∈ lw_tbl := lw_t4 _ (List.mem_of_getElem? (i := 174) rfl)
set_option maxRecDepth 100000 in
theorem mz_904 : Cond.initialized RJ6 ∈ lw_tbl := lw_t1 _ (List.mem_of_getElem? (i := 21) rfl)
set_option maxRecDepth 100000 in
theorem mz_905 : Cond.code yJ6_bitCount_0f7a4 cJ6_bitCount_0f7a4 1 (some .int) ∈ lw_tbl := lw_t4 _ (List.mem_of_getElem? (i := 175) rfl)
set_option maxRecDepth 100000 in
theorem mz_906 : Cond.constant RJ6 265 (1431655765) ∈ lw_tbl := lw_t4 _ (List.mem_of_getElem? (i := 176) rfl)
set_option maxRecDepth 100000 in
theorem mz_907 : Cond.constant RJ6 266 (858993459) ∈ lw_tbl := lw_t4 _ (List.mem_of_getElem? (i := 177) rfl)
set_option maxRecDepth 100000 in
theorem mz_908 : Cond.constant RJ6 267 (252645135) ∈ lw_tbl := lw_t4 _ (List.mem_of_getElem? (i := 178) rfl)
set_option maxRecDepth 100000 in
theorem mz_909 : Cond.methodLink RX11 256 yX4_firstStirOfDay ∈ lw_tbl := lw_t4 _ (List.mem_of_getElem? (i := 179) rfl)
set_option maxRecDepth 100000 in
theorem mz_910 : Cond.instanceMethod yX4_firstStirOfDay ∈ lw_tbl := lw_t4 _ (List.mem_of_getElem? (i := 180) rfl)
set_option maxRecDepth 100000 in
theorem mz_911 : Cond.selects RX4 yX4_firstStirOfDay yX4_firstStirOfDay ∈ lw_tbl := lw_t4 _ (List.mem_of_getElem? (i := 181) rfl)
set_option maxRecDepth 100000 in
theorem mz_912 : Cond.code yX4_firstStirOfDay cX4_firstStirOfDay 4 (some .int) ∈ lw_tbl := lw_t4 _ (List.mem_of_getElem? (i := 182) rfl)
set_option maxRecDepth 100000 in
theorem mz_913 : Cond.methodLink RX4 73 yX4_stirsOfDay ∈ lw_tbl := lw_t4 _ (List.mem_of_getElem? (i := 183) rfl)
set_option maxRecDepth 100000 in
theorem mz_914 : Cond.instanceMethod yX4_stirsOfDay ∈ lw_tbl := lw_t4 _ (List.mem_of_getElem? (i := 184) rfl)
set_option maxRecDepth 100000 in
theorem mz_915 : Cond.selects RX4 yX4_stirsOfDay yX4_stirsOfDay ∈ lw_tbl := lw_t4 _ (List.mem_of_getElem? (i := 185) rfl)
set_option maxRecDepth 100000 in
theorem mz_916 : Cond.code yX4_stirsOfDay cX4_stirsOfDay 3 (some .int) ∈ lw_tbl := lw_t4 _ (List.mem_of_getElem? (i := 186) rfl)
set_option maxRecDepth 100000 in
theorem mz_917 : Cond.methodLink RX4 69 yX4_howMany ∈ lw_tbl := lw_t4 _ (List.mem_of_getElem? (i := 187) rfl)
theorem hz_wsX11_histories_r3 : ∀ w ∈ wsX11_histories_r3, w ∈ lw_tbl := (List.forall_mem_cons.mpr ⟨mz_900, (List.forall_mem_cons.mpr ⟨mz_901, (List.forall_mem_cons.mpr ⟨mz_439, (List.forall_mem_cons.mpr ⟨mz_440, (List.forall_mem_cons.mpr ⟨mz_441, (List.forall_mem_cons.mpr ⟨mz_249, (List.forall_mem_cons.mpr ⟨mz_902, (List.forall_mem_cons.mpr ⟨mz_903, (List.forall_mem_cons.mpr ⟨mz_904, (List.forall_mem_cons.mpr ⟨mz_905, (List.forall_mem_cons.mpr ⟨mz_906, (List.forall_mem_cons.mpr ⟨mz_907, (List.forall_mem_cons.mpr ⟨mz_908, (List.forall_mem_cons.mpr ⟨mz_909, (List.forall_mem_cons.mpr ⟨mz_910, (List.forall_mem_cons.mpr ⟨mz_911, (List.forall_mem_cons.mpr ⟨mz_912, (List.forall_mem_cons.mpr ⟨mz_913, (List.forall_mem_cons.mpr ⟨mz_914, (List.forall_mem_cons.mpr ⟨mz_915, (List.forall_mem_cons.mpr ⟨mz_916, (List.forall_mem_cons.mpr ⟨mz_917, (fun _ h => absurd h List.not_mem_nil)⟩)⟩)⟩)⟩)⟩)⟩)⟩)⟩)⟩)⟩)⟩)⟩)⟩)⟩)⟩)⟩)⟩)⟩)⟩)⟩)⟩)⟩)
set_option maxRecDepth 100000 in
theorem hz_wsX40 : ∀ w ∈ wsX40, w ∈ lw_tbl := fun w h => (goodIn_r (big := lw_tbl) wsX40 [374, 376] rfl (by decide +kernel) w h).1
theorem hz_wsX11_histories : ∀ w ∈ wsX11_histories, w ∈ lw_tbl := (List.forall_mem_cons.mpr ⟨mz_879, (List.forall_mem_append.mpr ⟨(List.forall_mem_append.mpr ⟨(List.forall_mem_append.mpr ⟨(List.forall_mem_append.mpr ⟨(List.forall_mem_append.mpr ⟨(List.forall_mem_append.mpr ⟨hz_wsX11_histories_r1, (List.forall_mem_append.mpr ⟨hz_wsX11_histories_r2, hz_wsX11_histories_r3⟩)⟩), hz_wsX110⟩), hz_wsX40⟩), hz_wsX20⟩), hz_wsX80⟩), hz_wsX60⟩)⟩)
set_option maxRecDepth 100000 in
theorem mz_918 : Cond.methodLink RL 123 yX11_histories ∈ lw_tbl := lw_t4 _ (List.mem_of_getElem? (i := 158) rfl)
set_option maxRecDepth 100000 in
theorem mz_919 : Cond.instanceMethod yX11_histories ∈ lw_tbl := lw_t4 _ (List.mem_of_getElem? (i := 159) rfl)
set_option maxRecDepth 100000 in
theorem mz_920 : Cond.selects RX11 yX11_histories yX11_histories ∈ lw_tbl := lw_t4 _ (List.mem_of_getElem? (i := 160) rfl)
set_option maxRecDepth 100000 in
theorem mz_921 : Cond.code yX12_histories cX12_histories 6 (some .int) ∈ lw_tbl := lw_t6 _ (List.mem_of_getElem? (i := 215) rfl)
set_option maxRecDepth 100000 in
theorem mz_922 : Cond.constantLong RX12 288 (15) ∈ lw_tbl := lw_t6 _ (List.mem_of_getElem? (i := 216) rfl)
set_option maxRecDepth 100000 in
theorem mz_923 : Cond.fieldLink RX12 60 "LadleKingsModel" "goesOn" "[I" ∈ lw_tbl := lw_t5 _ (List.mem_of_getElem? (i := 105) rfl)
set_option maxRecDepth 100000 in
theorem mz_924 : Cond.methodLink RX12 290 yX12_findHistories ∈ lw_tbl := lw_t6 _ (List.mem_of_getElem? (i := 217) rfl)
set_option maxRecDepth 100000 in
theorem mz_925 : Cond.instanceMethod yX12_findHistories ∈ lw_tbl := lw_t6 _ (List.mem_of_getElem? (i := 219) rfl)
theorem mz_926 : Cond.selects RX12 yX12_findHistories yX12_findHistories ∈ lw_tbl := List.mem_of_getElem? (i := 70) (by decide +kernel)
set_option maxRecDepth 100000 in
theorem mz_927 : Cond.code yX12_findHistories cX12_findHistories 6 none ∈ lw_tbl := lw_t6 _ (List.mem_of_getElem? (i := 220) rfl)
theorem hz_wsX12_histories_r1 : ∀ w ∈ wsX12_histories_r1, w ∈ lw_tbl := (List.forall_mem_cons.mpr ⟨mz_660, (List.forall_mem_cons.mpr ⟨mz_922, (List.forall_mem_cons.mpr ⟨mz_923, (List.forall_mem_cons.mpr ⟨mz_370, (List.forall_mem_cons.mpr ⟨mz_372, (List.forall_mem_cons.mpr ⟨mz_28, (List.forall_mem_cons.mpr ⟨mz_29, (List.forall_mem_cons.mpr ⟨mz_22, (List.forall_mem_cons.mpr ⟨mz_30, (List.forall_mem_cons.mpr ⟨mz_924, (List.forall_mem_cons.mpr ⟨mz_925, (List.forall_mem_cons.mpr ⟨mz_926, (List.forall_mem_cons.mpr ⟨mz_927, (List.forall_mem_cons.mpr ⟨mz_371, (List.forall_mem_cons.mpr ⟨mz_676, (List.forall_mem_cons.mpr ⟨mz_677, (List.forall_mem_cons.mpr ⟨mz_678, (List.forall_mem_cons.mpr ⟨mz_679, (List.forall_mem_cons.mpr ⟨mz_374, (List.forall_mem_cons.mpr ⟨mz_558, (List.forall_mem_cons.mpr ⟨mz_559, (List.forall_mem_cons.mpr ⟨mz_560, (List.forall_mem_cons.mpr ⟨mz_561, (List.forall_mem_cons.mpr ⟨mz_525, (fun _ h => absurd h List.not_mem_nil)⟩)⟩)⟩)⟩)⟩)⟩)⟩)⟩)⟩)⟩)⟩)⟩)⟩)⟩)⟩)⟩)⟩)⟩)⟩)⟩)⟩)⟩)⟩)⟩)
set_option maxRecDepth 100000 in
theorem mz_928 : Cond.methodLink RX12 293 yX12_canGo ∈ lw_tbl := lw_t6 _ (List.mem_of_getElem? (i := 221) rfl)
set_option maxRecDepth 100000 in
theorem mz_929 : Cond.instanceMethod yX12_canGo ∈ lw_tbl := lw_t6 _ (List.mem_of_getElem? (i := 223) rfl)
theorem mz_930 : Cond.selects RX12 yX12_canGo yX12_canGo ∈ lw_tbl := List.mem_of_getElem? (i := 71) (by decide +kernel)
set_option maxRecDepth 100000 in
theorem mz_931 : Cond.code yX12_canGo cX12_canGo 5 (some .boolean) ∈ lw_tbl := lw_t6 _ (List.mem_of_getElem? (i := 224) rfl)
theorem hz_wsX12_histories_r2 : ∀ w ∈ wsX12_histories_r2, w ∈ lw_tbl := (List.forall_mem_cons.mpr ⟨mz_526, (List.forall_mem_cons.mpr ⟨mz_527, (List.forall_mem_cons.mpr ⟨mz_528, (List.forall_mem_cons.mpr ⟨mz_529, (List.forall_mem_cons.mpr ⟨mz_530, (List.forall_mem_cons.mpr ⟨mz_531, (List.forall_mem_cons.mpr ⟨mz_532, (List.forall_mem_cons.mpr ⟨mz_773, (List.forall_mem_cons.mpr ⟨mz_774, (List.forall_mem_cons.mpr ⟨mz_775, (List.forall_mem_cons.mpr ⟨mz_776, (List.forall_mem_cons.mpr ⟨mz_928, (List.forall_mem_cons.mpr ⟨mz_929, (List.forall_mem_cons.mpr ⟨mz_930, (List.forall_mem_cons.mpr ⟨mz_931, (fun _ h => absurd h List.not_mem_nil)⟩)⟩)⟩)⟩)⟩)⟩)⟩)⟩)⟩)⟩)⟩)⟩)⟩)⟩)⟩)
theorem hz_wsX12_histories : ∀ w ∈ wsX12_histories, w ∈ lw_tbl := (List.forall_mem_cons.mpr ⟨mz_921, (List.forall_mem_append.mpr ⟨(List.forall_mem_append.mpr ⟨hz_wsX12_histories_r1, hz_wsX12_histories_r2⟩), hz_wsX120⟩)⟩)
set_option maxRecDepth 100000 in
theorem mz_932 : Cond.methodLink RL 126 yX12_histories ∈ lw_tbl := lw_t6 _ (List.mem_of_getElem? (i := 212) rfl)
set_option maxRecDepth 100000 in
theorem mz_933 : Cond.instanceMethod yX12_histories ∈ lw_tbl := lw_t6 _ (List.mem_of_getElem? (i := 213) rfl)
set_option maxRecDepth 100000 in
theorem mz_934 : Cond.selects RX12 yX12_histories yX12_histories ∈ lw_tbl := lw_t6 _ (List.mem_of_getElem? (i := 214) rfl)
set_option maxRecDepth 100000 in
theorem mz_935 : Cond.code yX11_could cX11_could 2 (some .int) ∈ lw_tbl := lw_t4 _ (List.mem_of_getElem? (i := 191) rfl)
set_option maxRecDepth 100000 in
theorem mz_936 : Cond.methodLink RX11 259 yX4_stirsOfDay ∈ lw_tbl := lw_t4 _ (List.mem_of_getElem? (i := 192) rfl)
theorem hz_wsX11_could_r1 : ∀ w ∈ wsX11_could_r1, w ∈ lw_tbl := (List.forall_mem_cons.mpr ⟨mz_40, (List.forall_mem_cons.mpr ⟨mz_862, (List.forall_mem_cons.mpr ⟨mz_880, (List.forall_mem_cons.mpr ⟨mz_936, (List.forall_mem_cons.mpr ⟨mz_914, (List.forall_mem_cons.mpr ⟨mz_915, (List.forall_mem_cons.mpr ⟨mz_884, (List.forall_mem_cons.mpr ⟨mz_916, (List.forall_mem_cons.mpr ⟨mz_886, (List.forall_mem_cons.mpr ⟨mz_887, (List.forall_mem_cons.mpr ⟨mz_890, (List.forall_mem_cons.mpr ⟨mz_892, (List.forall_mem_cons.mpr ⟨mz_917, (List.forall_mem_cons.mpr ⟨mz_882, (List.forall_mem_cons.mpr ⟨mz_883, (List.forall_mem_cons.mpr ⟨mz_885, (List.forall_mem_cons.mpr ⟨mz_888, (List.forall_mem_cons.mpr ⟨mz_889, (List.forall_mem_cons.mpr ⟨mz_891, (List.forall_mem_cons.mpr ⟨mz_893, (List.forall_mem_cons.mpr ⟨mz_491, (List.forall_mem_cons.mpr ⟨mz_492, (List.forall_mem_cons.mpr ⟨mz_493, (List.forall_mem_cons.mpr ⟨mz_494, (fun _ h => absurd h List.not_mem_nil)⟩)⟩)⟩)⟩)⟩)⟩)⟩)⟩)⟩)⟩)⟩)⟩)⟩)⟩)⟩)⟩)⟩)⟩)⟩)⟩)⟩)⟩)⟩)⟩)
theorem hz_wsX11_could_r2 : ∀ w ∈ wsX11_could_r2, w ∈ lw_tbl := (List.forall_mem_cons.mpr ⟨mz_495, (List.forall_mem_cons.mpr ⟨mz_496, (List.forall_mem_cons.mpr ⟨mz_497, (List.forall_mem_cons.mpr ⟨mz_498, (List.forall_mem_cons.mpr ⟨mz_499, (List.forall_mem_cons.mpr ⟨mz_500, (List.forall_mem_cons.mpr ⟨mz_255, (List.forall_mem_cons.mpr ⟨mz_256, (List.forall_mem_cons.mpr ⟨mz_65, (List.forall_mem_cons.mpr ⟨mz_257, (List.forall_mem_cons.mpr ⟨mz_67, (List.forall_mem_cons.mpr ⟨mz_501, (List.forall_mem_cons.mpr ⟨mz_242, (List.forall_mem_cons.mpr ⟨mz_243, (List.forall_mem_cons.mpr ⟨mz_77, (List.forall_mem_cons.mpr ⟨mz_244, (List.forall_mem_cons.mpr ⟨mz_80, (List.forall_mem_cons.mpr ⟨mz_894, (List.forall_mem_cons.mpr ⟨mz_518, (List.forall_mem_cons.mpr ⟨mz_519, (List.forall_mem_cons.mpr ⟨mz_520, (List.forall_mem_cons.mpr ⟨mz_895, (List.forall_mem_cons.mpr ⟨mz_896, (List.forall_mem_cons.mpr ⟨mz_897, (fun _ h => absurd h List.not_mem_nil)⟩)⟩)⟩)⟩)⟩)⟩)⟩)⟩)⟩)⟩)⟩)⟩)⟩)⟩)⟩)⟩)⟩)⟩)⟩)⟩)⟩)⟩)⟩)⟩)
theorem hz_wsX11_could_r3 : ∀ w ∈ wsX11_could_r3, w ∈ lw_tbl := (List.forall_mem_cons.mpr ⟨mz_898, (List.forall_mem_cons.mpr ⟨mz_899, (List.forall_mem_cons.mpr ⟨mz_900, (List.forall_mem_cons.mpr ⟨mz_901, (List.forall_mem_cons.mpr ⟨mz_439, (List.forall_mem_cons.mpr ⟨mz_440, (List.forall_mem_cons.mpr ⟨mz_441, (List.forall_mem_cons.mpr ⟨mz_249, (List.forall_mem_cons.mpr ⟨mz_902, (List.forall_mem_cons.mpr ⟨mz_903, (List.forall_mem_cons.mpr ⟨mz_904, (List.forall_mem_cons.mpr ⟨mz_905, (List.forall_mem_cons.mpr ⟨mz_906, (List.forall_mem_cons.mpr ⟨mz_907, (List.forall_mem_cons.mpr ⟨mz_908, (fun _ h => absurd h List.not_mem_nil)⟩)⟩)⟩)⟩)⟩)⟩)⟩)⟩)⟩)⟩)⟩)⟩)⟩)⟩)⟩)
theorem hz_wsX11_could : ∀ w ∈ wsX11_could, w ∈ lw_tbl := (List.forall_mem_cons.mpr ⟨mz_935, (List.forall_mem_append.mpr ⟨(List.forall_mem_append.mpr ⟨(List.forall_mem_append.mpr ⟨(List.forall_mem_append.mpr ⟨(List.forall_mem_append.mpr ⟨(List.forall_mem_append.mpr ⟨hz_wsX11_could_r1, (List.forall_mem_append.mpr ⟨hz_wsX11_could_r2, hz_wsX11_could_r3⟩)⟩), hz_wsX110⟩), hz_wsX80⟩), hz_wsX40⟩), hz_wsX20⟩), hz_wsX60⟩)⟩)
set_option maxRecDepth 100000 in
theorem mz_937 : Cond.methodLink RL 127 yX11_could ∈ lw_tbl := lw_t4 _ (List.mem_of_getElem? (i := 188) rfl)
set_option maxRecDepth 100000 in
theorem mz_938 : Cond.instanceMethod yX11_could ∈ lw_tbl := lw_t4 _ (List.mem_of_getElem? (i := 189) rfl)
set_option maxRecDepth 100000 in
theorem mz_939 : Cond.selects RX11 yX11_could yX11_could ∈ lw_tbl := lw_t4 _ (List.mem_of_getElem? (i := 190) rfl)
set_option maxRecDepth 100000 in
theorem mz_940 : Cond.code yX12_could cX12_could 6 (some .int) ∈ lw_tbl := lw_t6 _ (List.mem_of_getElem? (i := 228) rfl)
set_option maxRecDepth 100000 in
theorem mz_941 : Cond.fieldLink RX12 63 "LadleKingsModel" "isThere" "[Z" ∈ lw_tbl := lw_t5 _ (List.mem_of_getElem? (i := 106) rfl)
set_option maxRecDepth 100000 in
theorem mz_942 : Cond.fieldLink RX12 66 "LadleKingsModel" "isThereThen" "[Z" ∈ lw_tbl := lw_t5 _ (List.mem_of_getElem? (i := 107) rfl)
theorem hz_wsX12_could_r1 : ∀ w ∈ wsX12_could_r1, w ∈ lw_tbl := (List.forall_mem_cons.mpr ⟨mz_370, (List.forall_mem_cons.mpr ⟨mz_941, (List.forall_mem_cons.mpr ⟨mz_942, (List.forall_mem_cons.mpr ⟨mz_372, (List.forall_mem_cons.mpr ⟨mz_28, (List.forall_mem_cons.mpr ⟨mz_29, (List.forall_mem_cons.mpr ⟨mz_22, (List.forall_mem_cons.mpr ⟨mz_30, (List.forall_mem_cons.mpr ⟨mz_924, (List.forall_mem_cons.mpr ⟨mz_925, (List.forall_mem_cons.mpr ⟨mz_926, (List.forall_mem_cons.mpr ⟨mz_927, (List.forall_mem_cons.mpr ⟨mz_923, (List.forall_mem_cons.mpr ⟨mz_371, (List.forall_mem_cons.mpr ⟨mz_676, (List.forall_mem_cons.mpr ⟨mz_677, (List.forall_mem_cons.mpr ⟨mz_678, (List.forall_mem_cons.mpr ⟨mz_679, (List.forall_mem_cons.mpr ⟨mz_374, (List.forall_mem_cons.mpr ⟨mz_558, (List.forall_mem_cons.mpr ⟨mz_559, (List.forall_mem_cons.mpr ⟨mz_560, (List.forall_mem_cons.mpr ⟨mz_561, (List.forall_mem_cons.mpr ⟨mz_525, (fun _ h => absurd h List.not_mem_nil)⟩)⟩)⟩)⟩)⟩)⟩)⟩)⟩)⟩)⟩)⟩)⟩)⟩)⟩)⟩)⟩)⟩)⟩)⟩)⟩)⟩)⟩)⟩)⟩)
theorem hz_wsX12_could_r2 : ∀ w ∈ wsX12_could_r2, w ∈ lw_tbl := (List.forall_mem_cons.mpr ⟨mz_526, (List.forall_mem_cons.mpr ⟨mz_527, (List.forall_mem_cons.mpr ⟨mz_528, (List.forall_mem_cons.mpr ⟨mz_529, (List.forall_mem_cons.mpr ⟨mz_530, (List.forall_mem_cons.mpr ⟨mz_531, (List.forall_mem_cons.mpr ⟨mz_532, (List.forall_mem_cons.mpr ⟨mz_773, (List.forall_mem_cons.mpr ⟨mz_774, (List.forall_mem_cons.mpr ⟨mz_775, (List.forall_mem_cons.mpr ⟨mz_776, (List.forall_mem_cons.mpr ⟨mz_928, (List.forall_mem_cons.mpr ⟨mz_929, (List.forall_mem_cons.mpr ⟨mz_930, (List.forall_mem_cons.mpr ⟨mz_931, (fun _ h => absurd h List.not_mem_nil)⟩)⟩)⟩)⟩)⟩)⟩)⟩)⟩)⟩)⟩)⟩)⟩)⟩)⟩)⟩)
theorem hz_wsX12_could : ∀ w ∈ wsX12_could, w ∈ lw_tbl := (List.forall_mem_cons.mpr ⟨mz_940, (List.forall_mem_append.mpr ⟨(List.forall_mem_append.mpr ⟨hz_wsX12_could_r1, hz_wsX12_could_r2⟩), hz_wsX120⟩)⟩)
set_option maxRecDepth 100000 in
theorem mz_943 : Cond.methodLink RL 130 yX12_could ∈ lw_tbl := lw_t6 _ (List.mem_of_getElem? (i := 225) rfl)
set_option maxRecDepth 100000 in
theorem mz_944 : Cond.instanceMethod yX12_could ∈ lw_tbl := lw_t6 _ (List.mem_of_getElem? (i := 226) rfl)
set_option maxRecDepth 100000 in
theorem mz_945 : Cond.selects RX12 yX12_could yX12_could ∈ lw_tbl := lw_t6 _ (List.mem_of_getElem? (i := 227) rfl)
set_option maxRecDepth 100000 in
theorem mz_946 : Cond.code yX11_blind cX11_blind 4 (some .long) ∈ lw_tbl := lw_t4 _ (List.mem_of_getElem? (i := 196) rfl)
set_option maxRecDepth 100000 in
theorem mz_947 : Cond.methodLink RX11 262 yX3_triesWithFinds ∈ lw_tbl := lw_t4 _ (List.mem_of_getElem? (i := 197) rfl)
set_option maxRecDepth 100000 in
theorem mz_948 : Cond.instanceMethod yX3_triesWithFinds ∈ lw_tbl := lw_t4 _ (List.mem_of_getElem? (i := 198) rfl)
set_option maxRecDepth 100000 in
theorem mz_949 : Cond.selects RX3 yX3_triesWithFinds yX3_triesWithFinds ∈ lw_tbl := lw_t4 _ (List.mem_of_getElem? (i := 199) rfl)
set_option maxRecDepth 100000 in
theorem mz_950 : Cond.code yX3_triesWithFinds cX3_triesWithFinds 6 (some .long) ∈ lw_tbl := lw_t4 _ (List.mem_of_getElem? (i := 200) rfl)
set_option maxRecDepth 100000 in
theorem mz_951 : Cond.fieldLink RX3 18 "LadleKings$Luck" "finds" "[J" ∈ lw_tbl := lw_t2 _ (List.mem_of_getElem? (i := 14) rfl)
theorem hz_wsX11_blind_r1 : ∀ w ∈ wsX11_blind_r1, w ∈ lw_tbl := (List.forall_mem_cons.mpr ⟨mz_601, (List.forall_mem_cons.mpr ⟨mz_603, (List.forall_mem_cons.mpr ⟨mz_38, (List.forall_mem_cons.mpr ⟨mz_392, (List.forall_mem_cons.mpr ⟨mz_604, (List.forall_mem_cons.mpr ⟨mz_605, (List.forall_mem_cons.mpr ⟨mz_14, (List.forall_mem_cons.mpr ⟨mz_606, (List.forall_mem_cons.mpr ⟨mz_947, (List.forall_mem_cons.mpr ⟨mz_948, (List.forall_mem_cons.mpr ⟨mz_949, (List.forall_mem_cons.mpr ⟨mz_610, (List.forall_mem_cons.mpr ⟨mz_950, (List.forall_mem_cons.mpr ⟨mz_951, (List.forall_mem_cons.mpr ⟨mz_616, (List.forall_mem_cons.mpr ⟨mz_633, (List.forall_mem_cons.mpr ⟨mz_634, (List.forall_mem_cons.mpr ⟨mz_625, (List.forall_mem_cons.mpr ⟨mz_626, (List.forall_mem_cons.mpr ⟨mz_72, (List.forall_mem_cons.mpr ⟨mz_627, (List.forall_mem_cons.mpr ⟨mz_647, (List.forall_mem_cons.mpr ⟨mz_648, (List.forall_mem_cons.mpr ⟨mz_649, (fun _ h => absurd h List.not_mem_nil)⟩)⟩)⟩)⟩)⟩)⟩)⟩)⟩)⟩)⟩)⟩)⟩)⟩)⟩)⟩)⟩)⟩)⟩)⟩)⟩)⟩)⟩)⟩)⟩)
theorem hz_wsX11_blind_r2 : ∀ w ∈ wsX11_blind_r2, w ∈ lw_tbl := (List.forall_mem_cons.mpr ⟨mz_650, (List.forall_mem_cons.mpr ⟨mz_651, (List.forall_mem_cons.mpr ⟨mz_652, (List.forall_mem_cons.mpr ⟨mz_653, (List.forall_mem_cons.mpr ⟨mz_654, (List.forall_mem_cons.mpr ⟨mz_655, (fun _ h => absurd h List.not_mem_nil)⟩)⟩)⟩)⟩)⟩)⟩)
theorem hz_wsX11_blind : ∀ w ∈ wsX11_blind, w ∈ lw_tbl := (List.forall_mem_cons.mpr ⟨mz_946, (List.forall_mem_append.mpr ⟨(List.forall_mem_append.mpr ⟨(List.forall_mem_append.mpr ⟨(List.forall_mem_append.mpr ⟨(List.forall_mem_append.mpr ⟨hz_wsX11_blind_r1, hz_wsX11_blind_r2⟩), hz_wsX110⟩), hz_wsX60⟩), hz_wsX30⟩), hz_wsX20⟩)⟩)
set_option maxRecDepth 100000 in
theorem mz_952 : Cond.methodLink RL 131 yX11_blind ∈ lw_tbl := lw_t4 _ (List.mem_of_getElem? (i := 193) rfl)
set_option maxRecDepth 100000 in
theorem mz_953 : Cond.instanceMethod yX11_blind ∈ lw_tbl := lw_t4 _ (List.mem_of_getElem? (i := 194) rfl)
set_option maxRecDepth 100000 in
theorem mz_954 : Cond.selects RX11 yX11_blind yX11_blind ∈ lw_tbl := lw_t4 _ (List.mem_of_getElem? (i := 195) rfl)
set_option maxRecDepth 100000 in
theorem mz_955 : Cond.code yX12_blind cX12_blind 9 (some .long) ∈ lw_tbl := lw_t6 _ (List.mem_of_getElem? (i := 232) rfl)
set_option maxRecDepth 100000 in
theorem mz_956 : Cond.constantLong RX12 296 (12) ∈ lw_tbl := lw_t6 _ (List.mem_of_getElem? (i := 233) rfl)
theorem hz_wsX12_blind : ∀ w ∈ wsX12_blind, w ∈ lw_tbl := (List.forall_mem_cons.mpr ⟨mz_955, (List.forall_mem_append.mpr ⟨(List.forall_mem_cons.mpr ⟨mz_956, (List.forall_mem_cons.mpr ⟨mz_661, (List.forall_mem_cons.mpr ⟨mz_371, (List.forall_mem_cons.mpr ⟨mz_28, (List.forall_mem_cons.mpr ⟨mz_29, (List.forall_mem_cons.mpr ⟨mz_22, (List.forall_mem_cons.mpr ⟨mz_30, (List.forall_mem_cons.mpr ⟨mz_664, (List.forall_mem_cons.mpr ⟨mz_665, (List.forall_mem_cons.mpr ⟨mz_666, (List.forall_mem_cons.mpr ⟨mz_680, (List.forall_mem_cons.mpr ⟨mz_681, (List.forall_mem_cons.mpr ⟨mz_682, (List.forall_mem_cons.mpr ⟨mz_683, (List.forall_mem_cons.mpr ⟨mz_684, (List.forall_mem_cons.mpr ⟨mz_685, (List.forall_mem_cons.mpr ⟨mz_686, (List.forall_mem_cons.mpr ⟨mz_687, (List.forall_mem_cons.mpr ⟨mz_688, (List.forall_mem_cons.mpr ⟨mz_689, (fun _ h => absurd h List.not_mem_nil)⟩)⟩)⟩)⟩)⟩)⟩)⟩)⟩)⟩)⟩)⟩)⟩)⟩)⟩)⟩)⟩)⟩)⟩)⟩)⟩), hz_wsX120⟩)⟩)
set_option maxRecDepth 100000 in
theorem mz_957 : Cond.methodLink RL 134 yX12_blind ∈ lw_tbl := lw_t6 _ (List.mem_of_getElem? (i := 229) rfl)
set_option maxRecDepth 100000 in
theorem mz_958 : Cond.instanceMethod yX12_blind ∈ lw_tbl := lw_t6 _ (List.mem_of_getElem? (i := 230) rfl)
set_option maxRecDepth 100000 in
theorem mz_959 : Cond.selects RX12 yX12_blind yX12_blind ∈ lw_tbl := lw_t6 _ (List.mem_of_getElem? (i := 231) rfl)
set_option maxRecDepth 100000 in
theorem mz_960 : Cond.code yX11_fair cX11_fair 4 (some .int) ∈ lw_tbl := lw_t4 _ (List.mem_of_getElem? (i := 204) rfl)
set_option maxRecDepth 100000 in
theorem mz_961 : Cond.fieldLink RX11 81 "LadleKings" "fairDays" "LLadleKings$FairDays;" ∈ lw_tbl := lw_t2 _ (List.mem_of_getElem? (i := 131) rfl)
set_option maxRecDepth 100000 in
theorem mz_962 : Cond.fieldLink RX11 268 "LadleKings$FairDays" "bestRow" "[I" ∈ lw_tbl := lw_t2 _ (List.mem_of_getElem? (i := 78) rfl)
set_option maxRecDepth 100000 in
theorem mz_963 : Cond.methodLink RX11 265 yX1_leastSpread ∈ lw_tbl := lw_t4 _ (List.mem_of_getElem? (i := 205) rfl)
set_option maxRecDepth 100000 in
theorem mz_964 : Cond.instanceMethod yX1_leastSpread ∈ lw_tbl := lw_t4 _ (List.mem_of_getElem? (i := 206) rfl)
set_option maxRecDepth 100000 in
theorem mz_965 : Cond.selects RX1 yX1_leastSpread yX1_leastSpread ∈ lw_tbl := lw_t4 _ (List.mem_of_getElem? (i := 207) rfl)
set_option maxRecDepth 100000 in
theorem mz_966 : Cond.initialized RX1 ∈ lw_tbl := lw_t1 _ (List.mem_of_getElem? (i := 12) rfl)
set_option maxRecDepth 100000 in
theorem mz_967 : Cond.code yX1_leastSpread cX1_leastSpread 5 (some .int) ∈ lw_tbl := lw_t4 _ (List.mem_of_getElem? (i := 208) rfl)
set_option maxRecDepth 100000 in
theorem mz_968 : Cond.methodLink RX1 41 Lib.Math.min.name ∈ lw_tbl := lw_t4 _ (List.mem_of_getElem? (i := 209) rfl)
set_option maxRecDepth 100000 in
theorem mz_969 : Cond.static Lib.Math.min.name ∈ lw_tbl := lw_t4 _ (List.mem_of_getElem? (i := 210) rfl)
set_option maxRecDepth 100000 in
theorem mz_970 : Cond.code Lib.Math.min.name Lib.Math.min.code 2 (some .int) ∈ lw_tbl := lw_t4 _ (List.mem_of_getElem? (i := 211) rfl)
set_option maxRecDepth 100000 in
theorem mz_971 : Cond.fieldLink RX1 30 "LadleKings$FairDays" "days" "I" ∈ lw_tbl := lw_t2 _ (List.mem_of_getElem? (i := 79) rfl)
set_option maxRecDepth 100000 in
theorem mz_972 : Cond.fieldLink RX1 34 "LadleKings$FairDays" "least" "I" ∈ lw_tbl := lw_t2 _ (List.mem_of_getElem? (i := 80) rfl)
set_option maxRecDepth 100000 in
theorem mz_973 : Cond.methodLink RX1 47 yX1_begin ∈ lw_tbl := lw_t4 _ (List.mem_of_getElem? (i := 212) rfl)
set_option maxRecDepth 100000 in
theorem mz_974 : Cond.instanceMethod yX1_begin ∈ lw_tbl := lw_t4 _ (List.mem_of_getElem? (i := 214) rfl)
theorem mz_975 : Cond.selects RX1 yX1_begin yX1_begin ∈ lw_tbl := List.mem_of_getElem? (i := 27) (by decide +kernel)
set_option maxRecDepth 100000 in
theorem mz_976 : Cond.code yX1_begin cX1_begin 2 none ∈ lw_tbl := lw_t4 _ (List.mem_of_getElem? (i := 215) rfl)
set_option maxRecDepth 100000 in
theorem mz_977 : Cond.fieldLink RX1 37 "LadleKings$FairDays" "kitchen" "LLadleKings$Kitchen;" ∈ lw_tbl := lw_t2 _ (List.mem_of_getElem? (i := 71) rfl)
theorem hz_wsX11_fair_r1 : ∀ w ∈ wsX11_fair_r1, w ∈ lw_tbl := (List.forall_mem_cons.mpr ⟨mz_38, (List.forall_mem_cons.mpr ⟨mz_393, (List.forall_mem_cons.mpr ⟨mz_961, (List.forall_mem_cons.mpr ⟨mz_962, (List.forall_mem_cons.mpr ⟨mz_708, (List.forall_mem_cons.mpr ⟨mz_709, (List.forall_mem_cons.mpr ⟨mz_14, (List.forall_mem_cons.mpr ⟨mz_710, (List.forall_mem_cons.mpr ⟨mz_963, (List.forall_mem_cons.mpr ⟨mz_964, (List.forall_mem_cons.mpr ⟨mz_965, (List.forall_mem_cons.mpr ⟨mz_966, (List.forall_mem_cons.mpr ⟨mz_967, (List.forall_mem_cons.mpr ⟨mz_968, (List.forall_mem_cons.mpr ⟨mz_969, (List.forall_mem_cons.mpr ⟨mz_206, (List.forall_mem_cons.mpr ⟨mz_970, (List.forall_mem_cons.mpr ⟨mz_971, (List.forall_mem_cons.mpr ⟨mz_972, (List.forall_mem_cons.mpr ⟨mz_973, (List.forall_mem_cons.mpr ⟨mz_974, (List.forall_mem_cons.mpr ⟨mz_975, (List.forall_mem_cons.mpr ⟨mz_976, (List.forall_mem_cons.mpr ⟨mz_977, (fun _ h => absurd h List.not_mem_nil)⟩)⟩)⟩)⟩)⟩)⟩)⟩)⟩)⟩)⟩)⟩)⟩)⟩)⟩)⟩)⟩)⟩)⟩)⟩)⟩)⟩)⟩)⟩)⟩)
set_option maxRecDepth 100000 in
theorem mz_978 : Cond.fieldLink RX1 66 "LadleKings$Kitchen" "state" "LLadleKings$State;" ∈ lw_tbl := lw_t1 _ (List.mem_of_getElem? (i := 227) rfl)
set_option maxRecDepth 100000 in
theorem mz_979 : Cond.fieldLink RX1 70 "LadleKings$State" "pieces" "[I" ∈ lw_tbl := lw_t1 _ (List.mem_of_getElem? (i := 84) rfl)
set_option maxRecDepth 100000 in
theorem mz_980 : Cond.fieldLink RX1 11 "LadleKings$FairDays" "pots" "[I" ∈ lw_tbl := lw_t2 _ (List.mem_of_getElem? (i := 72) rfl)
set_option maxRecDepth 100000 in
theorem mz_981 : Cond.fieldLink RX1 75 "LadleKings$Kitchen" "rules" "LLadleKings$Rules;" ∈ lw_tbl := lw_t1 _ (List.mem_of_getElem? (i := 222) rfl)
set_option maxRecDepth 100000 in
theorem mz_982 : Cond.fieldLink RX1 79 "LadleKings$Rules" "seats" "I" ∈ lw_tbl := lw_t1 _ (List.mem_of_getElem? (i := 40) rfl)
set_option maxRecDepth 100000 in
theorem mz_983 : Cond.methodLink RX1 84 arraycopyName ∈ lw_tbl := lw_t4 _ (List.mem_of_getElem? (i := 217) rfl)
set_option maxRecDepth 100000 in
theorem mz_984 : Cond.fieldLink RX1 15 "LadleKings$FairDays" "sums" "[I" ∈ lw_tbl := lw_t2 _ (List.mem_of_getElem? (i := 73) rfl)
set_option maxRecDepth 100000 in
theorem mz_985 : Cond.fieldLink RX1 24 "LadleKings$FairDays" "row" "[I" ∈ lw_tbl := lw_t2 _ (List.mem_of_getElem? (i := 76) rfl)
set_option maxRecDepth 100000 in
theorem mz_986 : Cond.fieldLink RX1 18 "LadleKings$FairDays" "kings" "[I" ∈ lw_tbl := lw_t2 _ (List.mem_of_getElem? (i := 74) rfl)
set_option maxRecDepth 100000 in
theorem mz_987 : Cond.fieldLink RX1 96 "LadleKings$State" "king" "I" ∈ lw_tbl := lw_t1 _ (List.mem_of_getElem? (i := 114) rfl)
set_option maxRecDepth 100000 in
theorem mz_988 : Cond.fieldLink RX1 21 "LadleKings$FairDays" "bones" "[I" ∈ lw_tbl := lw_t2 _ (List.mem_of_getElem? (i := 75) rfl)
set_option maxRecDepth 100000 in
theorem mz_989 : Cond.fieldLink RX1 99 "LadleKings$State" "bone" "I" ∈ lw_tbl := lw_t1 _ (List.mem_of_getElem? (i := 105) rfl)
set_option maxRecDepth 100000 in
theorem mz_990 : Cond.methodLink RX1 61 yX2_serveAllKings ∈ lw_tbl := lw_t4 _ (List.mem_of_getElem? (i := 216) rfl)
theorem hz_wsX11_fair_r2 : ∀ w ∈ wsX11_fair_r2, w ∈ lw_tbl := (List.forall_mem_cons.mpr ⟨mz_978, (List.forall_mem_cons.mpr ⟨mz_979, (List.forall_mem_cons.mpr ⟨mz_980, (List.forall_mem_cons.mpr ⟨mz_981, (List.forall_mem_cons.mpr ⟨mz_982, (List.forall_mem_cons.mpr ⟨mz_983, (List.forall_mem_cons.mpr ⟨mz_199, (List.forall_mem_cons.mpr ⟨mz_200, (List.forall_mem_cons.mpr ⟨mz_201, (List.forall_mem_cons.mpr ⟨mz_984, (List.forall_mem_cons.mpr ⟨mz_985, (List.forall_mem_cons.mpr ⟨mz_986, (List.forall_mem_cons.mpr ⟨mz_987, (List.forall_mem_cons.mpr ⟨mz_988, (List.forall_mem_cons.mpr ⟨mz_989, (List.forall_mem_cons.mpr ⟨mz_990, (List.forall_mem_cons.mpr ⟨mz_622, (List.forall_mem_cons.mpr ⟨mz_623, (List.forall_mem_cons.mpr ⟨mz_493, (List.forall_mem_cons.mpr ⟨mz_624, (List.forall_mem_cons.mpr ⟨mz_495, (List.forall_mem_cons.mpr ⟨mz_496, (List.forall_mem_cons.mpr ⟨mz_575, (List.forall_mem_cons.mpr ⟨mz_491, (fun _ h => absurd h List.not_mem_nil)⟩)⟩)⟩)⟩)⟩)⟩)⟩)⟩)⟩)⟩)⟩)⟩)⟩)⟩)⟩)⟩)⟩)⟩)⟩)⟩)⟩)⟩)⟩)⟩)
set_option maxRecDepth 100000 in
theorem mz_991 : Cond.methodLink RX1 90 yJ7_fill_53178 ∈ lw_tbl := lw_t4 _ (List.mem_of_getElem? (i := 218) rfl)
set_option maxRecDepth 100000 in
theorem mz_992 : Cond.methodLink RX1 51 yX1_goOn ∈ lw_tbl := lw_t4 _ (List.mem_of_getElem? (i := 219) rfl)
set_option maxRecDepth 100000 in
theorem mz_993 : Cond.instanceMethod yX1_goOn ∈ lw_tbl := lw_t4 _ (List.mem_of_getElem? (i := 221) rfl)
theorem mz_994 : Cond.selects RX1 yX1_goOn yX1_goOn ∈ lw_tbl := List.mem_of_getElem? (i := 28) (by decide +kernel)
theorem hz_wsX11_fair_r3 : ∀ w ∈ wsX11_fair_r3, w ∈ lw_tbl := (List.forall_mem_cons.mpr ⟨mz_492, (List.forall_mem_cons.mpr ⟨mz_494, (List.forall_mem_cons.mpr ⟨mz_497, (List.forall_mem_cons.mpr ⟨mz_498, (List.forall_mem_cons.mpr ⟨mz_499, (List.forall_mem_cons.mpr ⟨mz_500, (List.forall_mem_cons.mpr ⟨mz_255, (List.forall_mem_cons.mpr ⟨mz_256, (List.forall_mem_cons.mpr ⟨mz_65, (List.forall_mem_cons.mpr ⟨mz_257, (List.forall_mem_cons.mpr ⟨mz_67, (List.forall_mem_cons.mpr ⟨mz_501, (List.forall_mem_cons.mpr ⟨mz_242, (List.forall_mem_cons.mpr ⟨mz_243, (List.forall_mem_cons.mpr ⟨mz_77, (List.forall_mem_cons.mpr ⟨mz_244, (List.forall_mem_cons.mpr ⟨mz_80, (List.forall_mem_cons.mpr ⟨mz_991, (List.forall_mem_cons.mpr ⟨mz_71, (List.forall_mem_cons.mpr ⟨mz_72, (List.forall_mem_cons.mpr ⟨mz_73, (List.forall_mem_cons.mpr ⟨mz_992, (List.forall_mem_cons.mpr ⟨mz_993, (List.forall_mem_cons.mpr ⟨mz_994, (fun _ h => absurd h List.not_mem_nil)⟩)⟩)⟩)⟩)⟩)⟩)⟩)⟩)⟩)⟩)⟩)⟩)⟩)⟩)⟩)⟩)⟩)⟩)⟩)⟩)⟩)⟩)⟩)⟩)
set_option maxRecDepth 100000 in
theorem mz_995 : Cond.code yX1_goOn cX1_goOn 7 none ∈ lw_tbl := lw_t4 _ (List.mem_of_getElem? (i := 222) rfl)
set_option maxRecDepth 100000 in
theorem mz_996 : Cond.methodLink RX1 102 yX6_placeAfter ∈ lw_tbl := lw_t4 _ (List.mem_of_getElem? (i := 223) rfl)
set_option maxRecDepth 100000 in
theorem mz_997 : Cond.methodLink RX1 105 yX2_placeOf ∈ lw_tbl := lw_t4 _ (List.mem_of_getElem? (i := 224) rfl)
set_option maxRecDepth 100000 in
theorem mz_998 : Cond.methodLink RX1 108 yX2_holderOf ∈ lw_tbl := lw_t4 _ (List.mem_of_getElem? (i := 225) rfl)
set_option maxRecDepth 100000 in
theorem mz_999 : Cond.methodLink RX1 54 yX1_weigh ∈ lw_tbl := lw_t4 _ (List.mem_of_getElem? (i := 226) rfl)
set_option maxRecDepth 100000 in
theorem mz_1000 : Cond.instanceMethod yX1_weigh ∈ lw_tbl := lw_t4 _ (List.mem_of_getElem? (i := 228) rfl)
theorem mz_1001 : Cond.selects RX1 yX1_weigh yX1_weigh ∈ lw_tbl := List.mem_of_getElem? (i := 29) (by decide +kernel)
set_option maxRecDepth 100000 in
theorem mz_1002 : Cond.code yX1_weigh cX1_weigh 4 none ∈ lw_tbl := lw_t4 _ (List.mem_of_getElem? (i := 229) rfl)
set_option maxRecDepth 100000 in
theorem mz_1003 : Cond.methodLink RX1 111 Lib.Math.max.name ∈ lw_tbl := lw_t4 _ (List.mem_of_getElem? (i := 230) rfl)
set_option maxRecDepth 100000 in
theorem mz_1004 : Cond.fieldLink RX1 27 "LadleKings$FairDays" "bestRow" "[I" ∈ lw_tbl := lw_t2 _ (List.mem_of_getElem? (i := 77) rfl)
set_option maxRecDepth 100000 in
theorem mz_1005 : Cond.methodLink RX1 57 yX1_nextRow ∈ lw_tbl := lw_t4 _ (List.mem_of_getElem? (i := 231) rfl)
set_option maxRecDepth 100000 in
theorem mz_1006 : Cond.instanceMethod yX1_nextRow ∈ lw_tbl := lw_t4 _ (List.mem_of_getElem? (i := 233) rfl)
theorem hz_wsX11_fair_r4 : ∀ w ∈ wsX11_fair_r4, w ∈ lw_tbl := (List.forall_mem_cons.mpr ⟨mz_995, (List.forall_mem_cons.mpr ⟨mz_996, (List.forall_mem_cons.mpr ⟨mz_439, (List.forall_mem_cons.mpr ⟨mz_440, (List.forall_mem_cons.mpr ⟨mz_441, (List.forall_mem_cons.mpr ⟨mz_249, (List.forall_mem_cons.mpr ⟨mz_997, (List.forall_mem_cons.mpr ⟨mz_518, (List.forall_mem_cons.mpr ⟨mz_519, (List.forall_mem_cons.mpr ⟨mz_520, (List.forall_mem_cons.mpr ⟨mz_998, (List.forall_mem_cons.mpr ⟨mz_551, (List.forall_mem_cons.mpr ⟨mz_552, (List.forall_mem_cons.mpr ⟨mz_553, (List.forall_mem_cons.mpr ⟨mz_999, (List.forall_mem_cons.mpr ⟨mz_1000, (List.forall_mem_cons.mpr ⟨mz_1001, (List.forall_mem_cons.mpr ⟨mz_1002, (List.forall_mem_cons.mpr ⟨mz_1003, (List.forall_mem_cons.mpr ⟨mz_205, (List.forall_mem_cons.mpr ⟨mz_207, (List.forall_mem_cons.mpr ⟨mz_1004, (List.forall_mem_cons.mpr ⟨mz_1005, (List.forall_mem_cons.mpr ⟨mz_1006, (fun _ h => absurd h List.not_mem_nil)⟩)⟩)⟩)⟩)⟩)⟩)⟩)⟩)⟩)⟩)⟩)⟩)⟩)⟩)⟩)⟩)⟩)⟩)⟩)⟩)⟩)⟩)⟩)⟩)
theorem mz_1007 : Cond.selects RX1 yX1_nextRow yX1_nextRow ∈ lw_tbl := List.mem_of_getElem? (i := 30) (by decide +kernel)
set_option maxRecDepth 100000 in
theorem mz_1008 : Cond.code yX1_nextRow cX1_nextRow 2 (some .int) ∈ lw_tbl := lw_t4 _ (List.mem_of_getElem? (i := 234) rfl)
set_option maxRecDepth 100000 in
theorem mz_1009 : Cond.fieldLink RX1 114 "LadleKings$Rules" "stirs" "I" ∈ lw_tbl := lw_t1 _ (List.mem_of_getElem? (i := 47) rfl)
theorem hz_wsX11_fair_r5 : ∀ w ∈ wsX11_fair_r5, w ∈ lw_tbl := (List.forall_mem_cons.mpr ⟨mz_1007, (List.forall_mem_cons.mpr ⟨mz_1008, (List.forall_mem_cons.mpr ⟨mz_1009, (List.forall_mem_cons.mpr ⟨mz_756, (List.forall_mem_cons.mpr ⟨mz_757, (List.forall_mem_cons.mpr ⟨mz_758, (fun _ h => absurd h List.not_mem_nil)⟩)⟩)⟩)⟩)⟩)⟩)
set_option maxRecDepth 100000 in
theorem hz_wsX10 : ∀ w ∈ wsX10, w ∈ lw_tbl := fun w h => (goodIn_r (big := lw_tbl) wsX10 [395, 397, 399, 401, 403, 405, 407, 409, 411] rfl (by decide +kernel) w h).1
theorem hz_wsX11_fair : ∀ w ∈ wsX11_fair, w ∈ lw_tbl := (List.forall_mem_cons.mpr ⟨mz_960, (List.forall_mem_append.mpr ⟨(List.forall_mem_append.mpr ⟨(List.forall_mem_append.mpr ⟨(List.forall_mem_append.mpr ⟨(List.forall_mem_append.mpr ⟨(List.forall_mem_append.mpr ⟨hz_wsX11_fair_r1, (List.forall_mem_append.mpr ⟨hz_wsX11_fair_r2, (List.forall_mem_append.mpr ⟨hz_wsX11_fair_r3, (List.forall_mem_append.mpr ⟨hz_wsX11_fair_r4, hz_wsX11_fair_r5⟩)⟩)⟩)⟩), hz_wsX110⟩), hz_wsX60⟩), hz_wsX10⟩), hz_wsX20⟩), hz_wsX80⟩)⟩)
set_option maxRecDepth 100000 in
theorem mz_1010 : Cond.methodLink RL 135 yX11_fair ∈ lw_tbl := lw_t4 _ (List.mem_of_getElem? (i := 201) rfl)
set_option maxRecDepth 100000 in
theorem mz_1011 : Cond.instanceMethod yX11_fair ∈ lw_tbl := lw_t4 _ (List.mem_of_getElem? (i := 202) rfl)
set_option maxRecDepth 100000 in
theorem mz_1012 : Cond.selects RX11 yX11_fair yX11_fair ∈ lw_tbl := lw_t4 _ (List.mem_of_getElem? (i := 203) rfl)
set_option maxRecDepth 100000 in
theorem mz_1013 : Cond.code yX12_fair cX12_fair 8 (some .int) ∈ lw_tbl := lw_t6 _ (List.mem_of_getElem? (i := 237) rfl)
set_option maxRecDepth 100000 in
theorem mz_1014 : Cond.constantLong RX12 301 (13) ∈ lw_tbl := lw_t6 _ (List.mem_of_getElem? (i := 238) rfl)
set_option maxRecDepth 100000 in
theorem mz_1015 : Cond.fieldLink RX12 69 "LadleKingsModel" "bestRow" "[I" ∈ lw_tbl := lw_t5 _ (List.mem_of_getElem? (i := 108) rfl)
set_option maxRecDepth 100000 in
theorem mz_1016 : Cond.methodLink RX12 303 yX12_unlikeBy ∈ lw_tbl := lw_t6 _ (List.mem_of_getElem? (i := 239) rfl)
set_option maxRecDepth 100000 in
theorem mz_1017 : Cond.instanceMethod yX12_unlikeBy ∈ lw_tbl := lw_t7 _ (List.mem_of_getElem? (i := 1) rfl)
theorem mz_1018 : Cond.selects RX12 yX12_unlikeBy yX12_unlikeBy ∈ lw_tbl := List.mem_of_getElem? (i := 72) (by decide +kernel)
set_option maxRecDepth 100000 in
theorem mz_1019 : Cond.code yX12_unlikeBy cX12_unlikeBy 7 (some .int) ∈ lw_tbl := lw_t7 _ (List.mem_of_getElem? (i := 2) rfl)
set_option maxRecDepth 100000 in
theorem mz_1020 : Cond.methodLink RX12 298 yX12_copies ∈ lw_tbl := lw_t7 _ (List.mem_of_getElem? (i := 3) rfl)
set_option maxRecDepth 100000 in
theorem mz_1021 : Cond.instanceMethod yX12_copies ∈ lw_tbl := lw_t7 _ (List.mem_of_getElem? (i := 5) rfl)
theorem mz_1022 : Cond.selects RX12 yX12_copies yX12_copies ∈ lw_tbl := List.mem_of_getElem? (i := 73) (by decide +kernel)
set_option maxRecDepth 100000 in
theorem mz_1023 : Cond.code yX12_copies cX12_copies 4 none ∈ lw_tbl := lw_t7 _ (List.mem_of_getElem? (i := 6) rfl)
theorem hz_wsX12_fair_r1 : ∀ w ∈ wsX12_fair_r1, w ∈ lw_tbl := (List.forall_mem_cons.mpr ⟨mz_315, (List.forall_mem_cons.mpr ⟨mz_660, (List.forall_mem_cons.mpr ⟨mz_1014, (List.forall_mem_cons.mpr ⟨mz_372, (List.forall_mem_cons.mpr ⟨mz_794, (List.forall_mem_cons.mpr ⟨mz_1015, (List.forall_mem_cons.mpr ⟨mz_28, (List.forall_mem_cons.mpr ⟨mz_29, (List.forall_mem_cons.mpr ⟨mz_22, (List.forall_mem_cons.mpr ⟨mz_30, (List.forall_mem_cons.mpr ⟨mz_680, (List.forall_mem_cons.mpr ⟨mz_681, (List.forall_mem_cons.mpr ⟨mz_682, (List.forall_mem_cons.mpr ⟨mz_683, (List.forall_mem_cons.mpr ⟨mz_1016, (List.forall_mem_cons.mpr ⟨mz_1017, (List.forall_mem_cons.mpr ⟨mz_1018, (List.forall_mem_cons.mpr ⟨mz_1019, (List.forall_mem_cons.mpr ⟨mz_371, (List.forall_mem_cons.mpr ⟨mz_370, (List.forall_mem_cons.mpr ⟨mz_1020, (List.forall_mem_cons.mpr ⟨mz_1021, (List.forall_mem_cons.mpr ⟨mz_1022, (List.forall_mem_cons.mpr ⟨mz_1023, (fun _ h => absurd h List.not_mem_nil)⟩)⟩)⟩)⟩)⟩)⟩)⟩)⟩)⟩)⟩)⟩)⟩)⟩)⟩)⟩)⟩)⟩)⟩)⟩)⟩)⟩)⟩)⟩)⟩)
theorem hz_wsX12_fair_r2 : ∀ w ∈ wsX12_fair_r2, w ∈ lw_tbl := (List.forall_mem_cons.mpr ⟨mz_584, (List.forall_mem_cons.mpr ⟨mz_585, (List.forall_mem_cons.mpr ⟨mz_586, (List.forall_mem_cons.mpr ⟨mz_587, (List.forall_mem_cons.mpr ⟨mz_588, (List.forall_mem_cons.mpr ⟨mz_374, (List.forall_mem_cons.mpr ⟨mz_525, (List.forall_mem_cons.mpr ⟨mz_558, (List.forall_mem_cons.mpr ⟨mz_559, (List.forall_mem_cons.mpr ⟨mz_560, (List.forall_mem_cons.mpr ⟨mz_561, (List.forall_mem_cons.mpr ⟨mz_526, (List.forall_mem_cons.mpr ⟨mz_527, (List.forall_mem_cons.mpr ⟨mz_528, (List.forall_mem_cons.mpr ⟨mz_529, (List.forall_mem_cons.mpr ⟨mz_530, (List.forall_mem_cons.mpr ⟨mz_531, (List.forall_mem_cons.mpr ⟨mz_532, (fun _ h => absurd h List.not_mem_nil)⟩)⟩)⟩)⟩)⟩)⟩)⟩)⟩)⟩)⟩)⟩)⟩)⟩)⟩)⟩)⟩)⟩)⟩)
theorem hz_wsX12_fair : ∀ w ∈ wsX12_fair, w ∈ lw_tbl := (List.forall_mem_cons.mpr ⟨mz_1013, (List.forall_mem_append.mpr ⟨(List.forall_mem_append.mpr ⟨hz_wsX12_fair_r1, hz_wsX12_fair_r2⟩), hz_wsX120⟩)⟩)
set_option maxRecDepth 100000 in
theorem mz_1024 : Cond.methodLink RL 138 yX12_fair ∈ lw_tbl := lw_t6 _ (List.mem_of_getElem? (i := 234) rfl)
set_option maxRecDepth 100000 in
theorem mz_1025 : Cond.instanceMethod yX12_fair ∈ lw_tbl := lw_t6 _ (List.mem_of_getElem? (i := 235) rfl)
set_option maxRecDepth 100000 in
theorem mz_1026 : Cond.selects RX12 yX12_fair yX12_fair ∈ lw_tbl := lw_t6 _ (List.mem_of_getElem? (i := 236) rfl)
set_option maxRecDepth 100000 in
theorem mz_1027 : Cond.code yX11_keep cX11_keep 3 (some .int) ∈ lw_tbl := lw_t4 _ (List.mem_of_getElem? (i := 238) rfl)
set_option maxRecDepth 100000 in
theorem mz_1028 : Cond.fieldLink RX11 85 "LadleKings" "images" "[LLadleKings$State;" ∈ lw_tbl := lw_t2 _ (List.mem_of_getElem? (i := 132) rfl)
set_option maxRecDepth 100000 in
theorem mz_1029 : Cond.methodLink RX11 271 yX11_isImage ∈ lw_tbl := lw_t4 _ (List.mem_of_getElem? (i := 239) rfl)
set_option maxRecDepth 100000 in
theorem mz_1030 : Cond.static yX11_isImage ∈ lw_tbl := lw_t5 _ (List.mem_of_getElem? (i := 0) rfl)
set_option maxRecDepth 100000 in
theorem mz_1031 : Cond.code yX11_isImage cX11_isImage 1 (some .boolean) ∈ lw_tbl := lw_t5 _ (List.mem_of_getElem? (i := 1) rfl)
theorem hz_wsX11_keep_r1 : ∀ w ∈ wsX11_keep_r1, w ∈ lw_tbl := (List.forall_mem_cons.mpr ⟨mz_42, (List.forall_mem_cons.mpr ⟨mz_1028, (List.forall_mem_cons.mpr ⟨mz_40, (List.forall_mem_cons.mpr ⟨mz_1029, (List.forall_mem_cons.mpr ⟨mz_1030, (List.forall_mem_cons.mpr ⟨mz_14, (List.forall_mem_cons.mpr ⟨mz_1031, (List.forall_mem_cons.mpr ⟨mz_269, (List.forall_mem_cons.mpr ⟨mz_270, (List.forall_mem_cons.mpr ⟨mz_271, (List.forall_mem_cons.mpr ⟨mz_77, (List.forall_mem_cons.mpr ⟨mz_272, (List.forall_mem_cons.mpr ⟨mz_79, (List.forall_mem_cons.mpr ⟨mz_273, (List.forall_mem_cons.mpr ⟨mz_199, (List.forall_mem_cons.mpr ⟨mz_200, (List.forall_mem_cons.mpr ⟨mz_201, (List.forall_mem_cons.mpr ⟨mz_80, (List.forall_mem_cons.mpr ⟨mz_81, (List.forall_mem_cons.mpr ⟨mz_82, (List.forall_mem_cons.mpr ⟨mz_274, (List.forall_mem_cons.mpr ⟨mz_83, (List.forall_mem_cons.mpr ⟨mz_84, (List.forall_mem_cons.mpr ⟨mz_85, (fun _ h => absurd h List.not_mem_nil)⟩)⟩)⟩)⟩)⟩)⟩)⟩)⟩)⟩)⟩)⟩)⟩)⟩)⟩)⟩)⟩)⟩)⟩)⟩)⟩)⟩)⟩)⟩)⟩)
theorem hz_wsX11_keep_r2 : ∀ w ∈ wsX11_keep_r2, w ∈ lw_tbl := (List.forall_mem_cons.mpr ⟨mz_86, (fun _ h => absurd h List.not_mem_nil)⟩)
theorem hz_wsX11_keep : ∀ w ∈ wsX11_keep, w ∈ lw_tbl := (List.forall_mem_cons.mpr ⟨mz_1027, (List.forall_mem_append.mpr ⟨(List.forall_mem_append.mpr ⟨(List.forall_mem_append.mpr ⟨hz_wsX11_keep_r1, hz_wsX11_keep_r2⟩), hz_wsX110⟩), hz_wsX80⟩)⟩)
set_option maxRecDepth 100000 in
theorem mz_1032 : Cond.methodLink RL 139 yX11_keep ∈ lw_tbl := lw_t4 _ (List.mem_of_getElem? (i := 235) rfl)
set_option maxRecDepth 100000 in
theorem mz_1033 : Cond.instanceMethod yX11_keep ∈ lw_tbl := lw_t4 _ (List.mem_of_getElem? (i := 236) rfl)
set_option maxRecDepth 100000 in
theorem mz_1034 : Cond.selects RX11 yX11_keep yX11_keep ∈ lw_tbl := lw_t4 _ (List.mem_of_getElem? (i := 237) rfl)
set_option maxRecDepth 100000 in
theorem mz_1035 : Cond.code yX12_keep cX12_keep 3 (some .int) ∈ lw_tbl := lw_t7 _ (List.mem_of_getElem? (i := 10) rfl)
theorem hz_wsX12_keep : ∀ w ∈ wsX12_keep, w ∈ lw_tbl := (List.forall_mem_cons.mpr ⟨mz_1035, (List.forall_mem_append.mpr ⟨(List.forall_mem_cons.mpr ⟨mz_375, (List.forall_mem_cons.mpr ⟨mz_28, (List.forall_mem_cons.mpr ⟨mz_29, (List.forall_mem_cons.mpr ⟨mz_22, (List.forall_mem_cons.mpr ⟨mz_30, (List.forall_mem_cons.mpr ⟨mz_530, (List.forall_mem_cons.mpr ⟨mz_531, (List.forall_mem_cons.mpr ⟨mz_532, (List.forall_mem_cons.mpr ⟨mz_1020, (List.forall_mem_cons.mpr ⟨mz_1021, (List.forall_mem_cons.mpr ⟨mz_1022, (List.forall_mem_cons.mpr ⟨mz_1023, (List.forall_mem_cons.mpr ⟨mz_370, (fun _ h => absurd h List.not_mem_nil)⟩)⟩)⟩)⟩)⟩)⟩)⟩)⟩)⟩)⟩)⟩)⟩)⟩), hz_wsX120⟩)⟩)
set_option maxRecDepth 100000 in
theorem mz_1036 : Cond.methodLink RL 142 yX12_keep ∈ lw_tbl := lw_t7 _ (List.mem_of_getElem? (i := 7) rfl)
set_option maxRecDepth 100000 in
theorem mz_1037 : Cond.instanceMethod yX12_keep ∈ lw_tbl := lw_t7 _ (List.mem_of_getElem? (i := 8) rfl)
set_option maxRecDepth 100000 in
theorem mz_1038 : Cond.selects RX12 yX12_keep yX12_keep ∈ lw_tbl := lw_t7 _ (List.mem_of_getElem? (i := 9) rfl)
set_option maxRecDepth 100000 in
theorem mz_1039 : Cond.code yX11_back cX11_back 2 (some .int) ∈ lw_tbl := lw_t5 _ (List.mem_of_getElem? (i := 5) rfl)
theorem hz_wsX11_back_r1 : ∀ w ∈ wsX11_back_r1, w ∈ lw_tbl := (List.forall_mem_cons.mpr ⟨mz_42, (List.forall_mem_cons.mpr ⟨mz_40, (List.forall_mem_cons.mpr ⟨mz_1028, (List.forall_mem_cons.mpr ⟨mz_394, (List.forall_mem_cons.mpr ⟨mz_1029, (List.forall_mem_cons.mpr ⟨mz_1030, (List.forall_mem_cons.mpr ⟨mz_14, (List.forall_mem_cons.mpr ⟨mz_1031, (List.forall_mem_cons.mpr ⟨mz_269, (List.forall_mem_cons.mpr ⟨mz_270, (List.forall_mem_cons.mpr ⟨mz_271, (List.forall_mem_cons.mpr ⟨mz_77, (List.forall_mem_cons.mpr ⟨mz_272, (List.forall_mem_cons.mpr ⟨mz_79, (List.forall_mem_cons.mpr ⟨mz_273, (List.forall_mem_cons.mpr ⟨mz_199, (List.forall_mem_cons.mpr ⟨mz_200, (List.forall_mem_cons.mpr ⟨mz_201, (List.forall_mem_cons.mpr ⟨mz_80, (List.forall_mem_cons.mpr ⟨mz_81, (List.forall_mem_cons.mpr ⟨mz_82, (List.forall_mem_cons.mpr ⟨mz_274, (List.forall_mem_cons.mpr ⟨mz_83, (List.forall_mem_cons.mpr ⟨mz_84, (fun _ h => absurd h List.not_mem_nil)⟩)⟩)⟩)⟩)⟩)⟩)⟩)⟩)⟩)⟩)⟩)⟩)⟩)⟩)⟩)⟩)⟩)⟩)⟩)⟩)⟩)⟩)⟩)⟩)
theorem hz_wsX11_back_r2 : ∀ w ∈ wsX11_back_r2, w ∈ lw_tbl := (List.forall_mem_cons.mpr ⟨mz_85, (List.forall_mem_cons.mpr ⟨mz_86, (fun _ h => absurd h List.not_mem_nil)⟩)⟩)
theorem hz_wsX11_back : ∀ w ∈ wsX11_back, w ∈ lw_tbl := (List.forall_mem_cons.mpr ⟨mz_1039, (List.forall_mem_append.mpr ⟨(List.forall_mem_append.mpr ⟨(List.forall_mem_append.mpr ⟨hz_wsX11_back_r1, hz_wsX11_back_r2⟩), hz_wsX110⟩), hz_wsX80⟩)⟩)
set_option maxRecDepth 100000 in
theorem mz_1040 : Cond.methodLink RL 143 yX11_back ∈ lw_tbl := lw_t5 _ (List.mem_of_getElem? (i := 2) rfl)
set_option maxRecDepth 100000 in
theorem mz_1041 : Cond.instanceMethod yX11_back ∈ lw_tbl := lw_t5 _ (List.mem_of_getElem? (i := 3) rfl)
set_option maxRecDepth 100000 in
theorem mz_1042 : Cond.selects RX11 yX11_back yX11_back ∈ lw_tbl := lw_t5 _ (List.mem_of_getElem? (i := 4) rfl)
set_option maxRecDepth 100000 in
theorem mz_1043 : Cond.code yX12_back cX12_back 2 (some .int) ∈ lw_tbl := lw_t7 _ (List.mem_of_getElem? (i := 14) rfl)
theorem hz_wsX12_back : ∀ w ∈ wsX12_back, w ∈ lw_tbl := (List.forall_mem_cons.mpr ⟨mz_1043, (List.forall_mem_append.mpr ⟨(List.forall_mem_cons.mpr ⟨mz_375, (List.forall_mem_cons.mpr ⟨mz_370, (List.forall_mem_cons.mpr ⟨mz_28, (List.forall_mem_cons.mpr ⟨mz_29, (List.forall_mem_cons.mpr ⟨mz_22, (List.forall_mem_cons.mpr ⟨mz_30, (List.forall_mem_cons.mpr ⟨mz_1020, (List.forall_mem_cons.mpr ⟨mz_1021, (List.forall_mem_cons.mpr ⟨mz_1022, (List.forall_mem_cons.mpr ⟨mz_1023, (fun _ h => absurd h List.not_mem_nil)⟩)⟩)⟩)⟩)⟩)⟩)⟩)⟩)⟩)⟩), hz_wsX120⟩)⟩)
set_option maxRecDepth 100000 in
theorem mz_1044 : Cond.methodLink RL 146 yX12_back ∈ lw_tbl := lw_t7 _ (List.mem_of_getElem? (i := 11) rfl)
set_option maxRecDepth 100000 in
theorem mz_1045 : Cond.instanceMethod yX12_back ∈ lw_tbl := lw_t7 _ (List.mem_of_getElem? (i := 12) rfl)
set_option maxRecDepth 100000 in
theorem mz_1046 : Cond.selects RX12 yX12_back yX12_back ∈ lw_tbl := lw_t7 _ (List.mem_of_getElem? (i := 13) rfl)
set_option maxRecDepth 100000 in
theorem mz_1047 : Cond.code yX11_sheet cX11_sheet 4 (some .int) ∈ lw_tbl := lw_t5 _ (List.mem_of_getElem? (i := 9) rfl)
set_option maxRecDepth 100000 in
theorem mz_1048 : Cond.fieldLink RX11 95 "LadleKings" "sheets" "[LLadleKings$Sheet;" ∈ lw_tbl := lw_t2 _ (List.mem_of_getElem? (i := 134) rfl)
set_option maxRecDepth 100000 in
theorem mz_1049 : Cond.methodLink RX11 274 yX11_isSheet ∈ lw_tbl := lw_t5 _ (List.mem_of_getElem? (i := 10) rfl)
set_option maxRecDepth 100000 in
theorem mz_1050 : Cond.static yX11_isSheet ∈ lw_tbl := lw_t5 _ (List.mem_of_getElem? (i := 11) rfl)
set_option maxRecDepth 100000 in
theorem mz_1051 : Cond.code yX11_isSheet cX11_isSheet 1 (some .boolean) ∈ lw_tbl := lw_t5 _ (List.mem_of_getElem? (i := 12) rfl)
set_option maxRecDepth 100000 in
theorem mz_1052 : Cond.methodLink RX11 277 yX11_isLane ∈ lw_tbl := lw_t5 _ (List.mem_of_getElem? (i := 13) rfl)
set_option maxRecDepth 100000 in
theorem mz_1053 : Cond.static yX11_isLane ∈ lw_tbl := lw_t5 _ (List.mem_of_getElem? (i := 14) rfl)
set_option maxRecDepth 100000 in
theorem mz_1054 : Cond.code yX11_isLane cX11_isLane 1 (some .boolean) ∈ lw_tbl := lw_t5 _ (List.mem_of_getElem? (i := 15) rfl)
set_option maxRecDepth 100000 in
theorem mz_1055 : Cond.methodLink RX11 280 yX7_renew ∈ lw_tbl := lw_t5 _ (List.mem_of_getElem? (i := 16) rfl)
set_option maxRecDepth 100000 in
theorem mz_1056 : Cond.instanceMethod yX7_renew ∈ lw_tbl := lw_t5 _ (List.mem_of_getElem? (i := 17) rfl)
set_option maxRecDepth 100000 in
theorem mz_1057 : Cond.selects RX7 yX7_renew yX7_renew ∈ lw_tbl := lw_t5 _ (List.mem_of_getElem? (i := 18) rfl)
set_option maxRecDepth 100000 in
theorem mz_1058 : Cond.initialized RX7 ∈ lw_tbl := lw_t1 _ (List.mem_of_getElem? (i := 13) rfl)
set_option maxRecDepth 100000 in
theorem mz_1059 : Cond.code yX7_renew cX7_renew 3 none ∈ lw_tbl := lw_t5 _ (List.mem_of_getElem? (i := 19) rfl)
set_option maxRecDepth 100000 in
theorem mz_1060 : Cond.fieldLink RX7 9 "LadleKings$Sheet" "lane" "I" ∈ lw_tbl := lw_t2 _ (List.mem_of_getElem? (i := 108) rfl)
set_option maxRecDepth 100000 in
theorem mz_1061 : Cond.fieldLink RX7 15 "LadleKings$Sheet" "size" "I" ∈ lw_tbl := lw_t2 _ (List.mem_of_getElem? (i := 110) rfl)
set_option maxRecDepth 100000 in
theorem mz_1062 : Cond.fieldLink RX7 18 "LadleKings$Sheet" "cells" "[I" ∈ lw_tbl := lw_t2 _ (List.mem_of_getElem? (i := 112) rfl)
set_option maxRecDepth 100000 in
theorem mz_1063 : Cond.methodLink RX7 22 yJ7_fill_53178 ∈ lw_tbl := lw_t5 _ (List.mem_of_getElem? (i := 20) rfl)
set_option maxRecDepth 100000 in
theorem hz_wsX70 : ∀ w ∈ wsX70, w ∈ lw_tbl := fun w h => (goodIn_r (big := lw_tbl) wsX70 [428, 430, 432] rfl (by decide +kernel) w h).1
theorem hz_wsX11_sheet : ∀ w ∈ wsX11_sheet, w ∈ lw_tbl := (List.forall_mem_cons.mpr ⟨mz_1047, (List.forall_mem_append.mpr ⟨(List.forall_mem_append.mpr ⟨(List.forall_mem_cons.mpr ⟨mz_1048, (List.forall_mem_cons.mpr ⟨mz_1049, (List.forall_mem_cons.mpr ⟨mz_1050, (List.forall_mem_cons.mpr ⟨mz_14, (List.forall_mem_cons.mpr ⟨mz_1051, (List.forall_mem_cons.mpr ⟨mz_1052, (List.forall_mem_cons.mpr ⟨mz_1053, (List.forall_mem_cons.mpr ⟨mz_1054, (List.forall_mem_cons.mpr ⟨mz_1055, (List.forall_mem_cons.mpr ⟨mz_1056, (List.forall_mem_cons.mpr ⟨mz_1057, (List.forall_mem_cons.mpr ⟨mz_1058, (List.forall_mem_cons.mpr ⟨mz_1059, (List.forall_mem_cons.mpr ⟨mz_1060, (List.forall_mem_cons.mpr ⟨mz_1061, (List.forall_mem_cons.mpr ⟨mz_1062, (List.forall_mem_cons.mpr ⟨mz_1063, (List.forall_mem_cons.mpr ⟨mz_71, (List.forall_mem_cons.mpr ⟨mz_72, (List.forall_mem_cons.mpr ⟨mz_73, (fun _ h => absurd h List.not_mem_nil)⟩)⟩)⟩)⟩)⟩)⟩)⟩)⟩)⟩)⟩)⟩)⟩)⟩)⟩)⟩)⟩)⟩)⟩)⟩)⟩), hz_wsX110⟩), hz_wsX70⟩)⟩)
set_option maxRecDepth 100000 in
theorem mz_1064 : Cond.methodLink RL 147 yX11_sheet ∈ lw_tbl := lw_t5 _ (List.mem_of_getElem? (i := 6) rfl)
set_option maxRecDepth 100000 in
theorem mz_1065 : Cond.instanceMethod yX11_sheet ∈ lw_tbl := lw_t5 _ (List.mem_of_getElem? (i := 7) rfl)
set_option maxRecDepth 100000 in
theorem mz_1066 : Cond.selects RX11 yX11_sheet yX11_sheet ∈ lw_tbl := lw_t5 _ (List.mem_of_getElem? (i := 8) rfl)
set_option maxRecDepth 100000 in
theorem mz_1067 : Cond.code yX12_sheet cX12_sheet 5 (some .int) ∈ lw_tbl := lw_t7 _ (List.mem_of_getElem? (i := 18) rfl)
set_option maxRecDepth 100000 in
theorem mz_1068 : Cond.fieldLink RX12 72 "LadleKingsModel" "lanes" "[I" ∈ lw_tbl := lw_t5 _ (List.mem_of_getElem? (i := 109) rfl)
set_option maxRecDepth 100000 in
theorem mz_1069 : Cond.fieldLink RX12 75 "LadleKingsModel" "sizes" "[I" ∈ lw_tbl := lw_t5 _ (List.mem_of_getElem? (i := 110) rfl)
set_option maxRecDepth 100000 in
theorem mz_1070 : Cond.fieldLink RX12 78 "LadleKingsModel" "cells" "[I" ∈ lw_tbl := lw_t5 _ (List.mem_of_getElem? (i := 111) rfl)
set_option maxRecDepth 100000 in
theorem mz_1071 : Cond.methodLink RX12 310 yX12_isSheet ∈ lw_tbl := lw_t7 _ (List.mem_of_getElem? (i := 19) rfl)
set_option maxRecDepth 100000 in
theorem mz_1072 : Cond.static yX12_isSheet ∈ lw_tbl := lw_t7 _ (List.mem_of_getElem? (i := 20) rfl)
set_option maxRecDepth 100000 in
theorem mz_1073 : Cond.code yX12_isSheet cX12_isSheet 2 (some .boolean) ∈ lw_tbl := lw_t7 _ (List.mem_of_getElem? (i := 21) rfl)
set_option maxRecDepth 100000 in
theorem mz_1074 : Cond.constantLong RX12 306 (3) ∈ lw_tbl := lw_t7 _ (List.mem_of_getElem? (i := 22) rfl)
set_option maxRecDepth 100000 in
theorem mz_1075 : Cond.constantLong RX12 308 (2) ∈ lw_tbl := lw_t7 _ (List.mem_of_getElem? (i := 23) rfl)
theorem hz_wsX12_sheet : ∀ w ∈ wsX12_sheet, w ∈ lw_tbl := (List.forall_mem_cons.mpr ⟨mz_1067, (List.forall_mem_append.mpr ⟨(List.forall_mem_cons.mpr ⟨mz_1068, (List.forall_mem_cons.mpr ⟨mz_1069, (List.forall_mem_cons.mpr ⟨mz_1070, (List.forall_mem_cons.mpr ⟨mz_1071, (List.forall_mem_cons.mpr ⟨mz_1072, (List.forall_mem_cons.mpr ⟨mz_22, (List.forall_mem_cons.mpr ⟨mz_1073, (List.forall_mem_cons.mpr ⟨mz_1074, (List.forall_mem_cons.mpr ⟨mz_1075, (List.forall_mem_cons.mpr ⟨mz_28, (List.forall_mem_cons.mpr ⟨mz_29, (List.forall_mem_cons.mpr ⟨mz_30, (fun _ h => absurd h List.not_mem_nil)⟩)⟩)⟩)⟩)⟩)⟩)⟩)⟩)⟩)⟩)⟩)⟩), hz_wsX120⟩)⟩)
set_option maxRecDepth 100000 in
theorem mz_1076 : Cond.methodLink RL 150 yX12_sheet ∈ lw_tbl := lw_t7 _ (List.mem_of_getElem? (i := 15) rfl)
set_option maxRecDepth 100000 in
theorem mz_1077 : Cond.instanceMethod yX12_sheet ∈ lw_tbl := lw_t7 _ (List.mem_of_getElem? (i := 16) rfl)
set_option maxRecDepth 100000 in
theorem mz_1078 : Cond.selects RX12 yX12_sheet yX12_sheet ∈ lw_tbl := lw_t7 _ (List.mem_of_getElem? (i := 17) rfl)
set_option maxRecDepth 100000 in
theorem mz_1079 : Cond.code yX11_lay cX11_lay 6 (some .int) ∈ lw_tbl := lw_t5 _ (List.mem_of_getElem? (i := 24) rfl)
set_option maxRecDepth 100000 in
theorem mz_1080 : Cond.fieldLink RX11 284 "LadleKings$Sheet" "lane" "I" ∈ lw_tbl := lw_t2 _ (List.mem_of_getElem? (i := 109) rfl)
set_option maxRecDepth 100000 in
theorem mz_1081 : Cond.methodLink RX11 287 yX7_faultAt ∈ lw_tbl := lw_t5 _ (List.mem_of_getElem? (i := 25) rfl)
set_option maxRecDepth 100000 in
theorem mz_1082 : Cond.instanceMethod yX7_faultAt ∈ lw_tbl := lw_t5 _ (List.mem_of_getElem? (i := 26) rfl)
set_option maxRecDepth 100000 in
theorem mz_1083 : Cond.selects RX7 yX7_faultAt yX7_faultAt ∈ lw_tbl := lw_t5 _ (List.mem_of_getElem? (i := 27) rfl)
set_option maxRecDepth 100000 in
theorem mz_1084 : Cond.code yX7_faultAt cX7_faultAt 3 (some .int) ∈ lw_tbl := lw_t5 _ (List.mem_of_getElem? (i := 28) rfl)
set_option maxRecDepth 100000 in
theorem mz_1085 : Cond.methodLink RX7 28 yX7_isNothing ∈ lw_tbl := lw_t5 _ (List.mem_of_getElem? (i := 29) rfl)
set_option maxRecDepth 100000 in
theorem mz_1086 : Cond.instanceMethod yX7_isNothing ∈ lw_tbl := lw_t5 _ (List.mem_of_getElem? (i := 30) rfl)
set_option maxRecDepth 100000 in
theorem mz_1087 : Cond.selects RX7 yX7_isNothing yX7_isNothing ∈ lw_tbl := lw_t5 _ (List.mem_of_getElem? (i := 31) rfl)
set_option maxRecDepth 100000 in
theorem mz_1088 : Cond.code yX7_isNothing cX7_isNothing 1 (some .boolean) ∈ lw_tbl := lw_t5 _ (List.mem_of_getElem? (i := 32) rfl)
set_option maxRecDepth 100000 in
theorem mz_1089 : Cond.methodLink RX11 290 yX7_put ∈ lw_tbl := lw_t5 _ (List.mem_of_getElem? (i := 33) rfl)
set_option maxRecDepth 100000 in
theorem mz_1090 : Cond.instanceMethod yX7_put ∈ lw_tbl := lw_t5 _ (List.mem_of_getElem? (i := 34) rfl)
set_option maxRecDepth 100000 in
theorem mz_1091 : Cond.selects RX7 yX7_put yX7_put ∈ lw_tbl := lw_t5 _ (List.mem_of_getElem? (i := 35) rfl)
set_option maxRecDepth 100000 in
theorem mz_1092 : Cond.code yX7_put cX7_put 3 none ∈ lw_tbl := lw_t5 _ (List.mem_of_getElem? (i := 36) rfl)
theorem hz_wsX11_lay : ∀ w ∈ wsX11_lay, w ∈ lw_tbl := (List.forall_mem_cons.mpr ⟨mz_1079, (List.forall_mem_append.mpr ⟨(List.forall_mem_append.mpr ⟨(List.forall_mem_cons.mpr ⟨mz_1048, (List.forall_mem_cons.mpr ⟨mz_1080, (List.forall_mem_cons.mpr ⟨mz_1049, (List.forall_mem_cons.mpr ⟨mz_1050, (List.forall_mem_cons.mpr ⟨mz_14, (List.forall_mem_cons.mpr ⟨mz_1051, (List.forall_mem_cons.mpr ⟨mz_1081, (List.forall_mem_cons.mpr ⟨mz_1082, (List.forall_mem_cons.mpr ⟨mz_1083, (List.forall_mem_cons.mpr ⟨mz_1058, (List.forall_mem_cons.mpr ⟨mz_1084, (List.forall_mem_cons.mpr ⟨mz_1060, (List.forall_mem_cons.mpr ⟨mz_1061, (List.forall_mem_cons.mpr ⟨mz_1085, (List.forall_mem_cons.mpr ⟨mz_1086, (List.forall_mem_cons.mpr ⟨mz_1087, (List.forall_mem_cons.mpr ⟨mz_1088, (List.forall_mem_cons.mpr ⟨mz_1089, (List.forall_mem_cons.mpr ⟨mz_1090, (List.forall_mem_cons.mpr ⟨mz_1091, (List.forall_mem_cons.mpr ⟨mz_1092, (List.forall_mem_cons.mpr ⟨mz_1062, (fun _ h => absurd h List.not_mem_nil)⟩)⟩)⟩)⟩)⟩)⟩)⟩)⟩)⟩)⟩)⟩)⟩)⟩)⟩)⟩)⟩)⟩)⟩)⟩)⟩)⟩)⟩), hz_wsX110⟩), hz_wsX70⟩)⟩)
set_option maxRecDepth 100000 in
theorem mz_1093 : Cond.methodLink RL 151 yX11_lay ∈ lw_tbl := lw_t5 _ (List.mem_of_getElem? (i := 21) rfl)
set_option maxRecDepth 100000 in
theorem mz_1094 : Cond.instanceMethod yX11_lay ∈ lw_tbl := lw_t5 _ (List.mem_of_getElem? (i := 22) rfl)
set_option maxRecDepth 100000 in
theorem mz_1095 : Cond.selects RX11 yX11_lay yX11_lay ∈ lw_tbl := lw_t5 _ (List.mem_of_getElem? (i := 23) rfl)
set_option maxRecDepth 100000 in
theorem mz_1096 : Cond.code yX12_lay cX12_lay 4 (some .int) ∈ lw_tbl := lw_t7 _ (List.mem_of_getElem? (i := 27) rfl)
theorem hz_wsX12_lay : ∀ w ∈ wsX12_lay, w ∈ lw_tbl := (List.forall_mem_cons.mpr ⟨mz_1096, (List.forall_mem_append.mpr ⟨(List.forall_mem_cons.mpr ⟨mz_1068, (List.forall_mem_cons.mpr ⟨mz_1069, (List.forall_mem_cons.mpr ⟨mz_1070, (List.forall_mem_cons.mpr ⟨mz_1071, (List.forall_mem_cons.mpr ⟨mz_1072, (List.forall_mem_cons.mpr ⟨mz_22, (List.forall_mem_cons.mpr ⟨mz_1073, (List.forall_mem_cons.mpr ⟨mz_1074, (List.forall_mem_cons.mpr ⟨mz_1075, (List.forall_mem_cons.mpr ⟨mz_28, (List.forall_mem_cons.mpr ⟨mz_29, (List.forall_mem_cons.mpr ⟨mz_30, (fun _ h => absurd h List.not_mem_nil)⟩)⟩)⟩)⟩)⟩)⟩)⟩)⟩)⟩)⟩)⟩)⟩), hz_wsX120⟩)⟩)
set_option maxRecDepth 100000 in
theorem mz_1097 : Cond.methodLink RL 154 yX12_lay ∈ lw_tbl := lw_t7 _ (List.mem_of_getElem? (i := 24) rfl)
set_option maxRecDepth 100000 in
theorem mz_1098 : Cond.instanceMethod yX12_lay ∈ lw_tbl := lw_t7 _ (List.mem_of_getElem? (i := 25) rfl)
set_option maxRecDepth 100000 in
theorem mz_1099 : Cond.selects RX12 yX12_lay yX12_lay ∈ lw_tbl := lw_t7 _ (List.mem_of_getElem? (i := 26) rfl)
set_option maxRecDepth 100000 in
theorem mz_1100 : Cond.code yX11_read cX11_read 9 (some .int) ∈ lw_tbl := lw_t5 _ (List.mem_of_getElem? (i := 40) rfl)
set_option maxRecDepth 100000 in
theorem mz_1101 : Cond.fieldLink RX11 293 "LadleKings$Sheet" "cells" "[I" ∈ lw_tbl := lw_t2 _ (List.mem_of_getElem? (i := 113) rfl)
set_option maxRecDepth 100000 in
theorem mz_1102 : Cond.fieldLink RX11 103 "LadleKings" "latestTear" "I" ∈ lw_tbl := lw_t2 _ (List.mem_of_getElem? (i := 136) rfl)
set_option maxRecDepth 100000 in
theorem mz_1103 : Cond.methodLink RX11 296 yX11_canPass ∈ lw_tbl := lw_t5 _ (List.mem_of_getElem? (i := 41) rfl)
set_option maxRecDepth 100000 in
theorem mz_1104 : Cond.instanceMethod yX11_canPass ∈ lw_tbl := lw_t5 _ (List.mem_of_getElem? (i := 43) rfl)
theorem hz_wsX11_read_r1 : ∀ w ∈ wsX11_read_r1, w ∈ lw_tbl := (List.forall_mem_cons.mpr ⟨mz_1048, (List.forall_mem_cons.mpr ⟨mz_1101, (List.forall_mem_cons.mpr ⟨mz_489, (List.forall_mem_cons.mpr ⟨mz_1102, (List.forall_mem_cons.mpr ⟨mz_1049, (List.forall_mem_cons.mpr ⟨mz_1050, (List.forall_mem_cons.mpr ⟨mz_14, (List.forall_mem_cons.mpr ⟨mz_1051, (List.forall_mem_cons.mpr ⟨mz_1052, (List.forall_mem_cons.mpr ⟨mz_1053, (List.forall_mem_cons.mpr ⟨mz_1054, (List.forall_mem_cons.mpr ⟨mz_1081, (List.forall_mem_cons.mpr ⟨mz_1082, (List.forall_mem_cons.mpr ⟨mz_1083, (List.forall_mem_cons.mpr ⟨mz_1058, (List.forall_mem_cons.mpr ⟨mz_1084, (List.forall_mem_cons.mpr ⟨mz_1060, (List.forall_mem_cons.mpr ⟨mz_1061, (List.forall_mem_cons.mpr ⟨mz_1085, (List.forall_mem_cons.mpr ⟨mz_1086, (List.forall_mem_cons.mpr ⟨mz_1087, (List.forall_mem_cons.mpr ⟨mz_1088, (List.forall_mem_cons.mpr ⟨mz_1103, (List.forall_mem_cons.mpr ⟨mz_1104, (fun _ h => absurd h List.not_mem_nil)⟩)⟩)⟩)⟩)⟩)⟩)⟩)⟩)⟩)⟩)⟩)⟩)⟩)⟩)⟩)⟩)⟩)⟩)⟩)⟩)⟩)⟩)⟩)⟩)
theorem mz_1105 : Cond.selects RX11 yX11_canPass yX11_canPass ∈ lw_tbl := List.mem_of_getElem? (i := 31) (by decide +kernel)
set_option maxRecDepth 100000 in
theorem mz_1106 : Cond.code yX11_canPass cX11_canPass 3 (some .boolean) ∈ lw_tbl := lw_t5 _ (List.mem_of_getElem? (i := 44) rfl)
theorem hz_wsX11_read_r2 : ∀ w ∈ wsX11_read_r2, w ∈ lw_tbl := (List.forall_mem_cons.mpr ⟨mz_1105, (List.forall_mem_cons.mpr ⟨mz_1106, (List.forall_mem_cons.mpr ⟨mz_38, (List.forall_mem_cons.mpr ⟨mz_40, (List.forall_mem_cons.mpr ⟨mz_395, (List.forall_mem_cons.mpr ⟨mz_434, (List.forall_mem_cons.mpr ⟨mz_435, (List.forall_mem_cons.mpr ⟨mz_436, (List.forall_mem_cons.mpr ⟨mz_65, (List.forall_mem_cons.mpr ⟨mz_437, (List.forall_mem_cons.mpr ⟨mz_68, (List.forall_mem_cons.mpr ⟨mz_566, (List.forall_mem_cons.mpr ⟨mz_567, (List.forall_mem_cons.mpr ⟨mz_568, (List.forall_mem_cons.mpr ⟨mz_493, (List.forall_mem_cons.mpr ⟨mz_569, (List.forall_mem_cons.mpr ⟨mz_497, (List.forall_mem_cons.mpr ⟨mz_570, (List.forall_mem_cons.mpr ⟨mz_507, (List.forall_mem_cons.mpr ⟨mz_506, (List.forall_mem_cons.mpr ⟨mz_495, (List.forall_mem_cons.mpr ⟨mz_496, (List.forall_mem_cons.mpr ⟨mz_571, (List.forall_mem_cons.mpr ⟨mz_199, (fun _ h => absurd h List.not_mem_nil)⟩)⟩)⟩)⟩)⟩)⟩)⟩)⟩)⟩)⟩)⟩)⟩)⟩)⟩)⟩)⟩)⟩)⟩)⟩)⟩)⟩)⟩)⟩)⟩)
theorem hz_wsX11_read_r3 : ∀ w ∈ wsX11_read_r3, w ∈ lw_tbl := (List.forall_mem_cons.mpr ⟨mz_200, (List.forall_mem_cons.mpr ⟨mz_201, (List.forall_mem_cons.mpr ⟨mz_572, (List.forall_mem_cons.mpr ⟨mz_573, (List.forall_mem_cons.mpr ⟨mz_574, (List.forall_mem_cons.mpr ⟨mz_575, (List.forall_mem_cons.mpr ⟨mz_491, (List.forall_mem_cons.mpr ⟨mz_492, (List.forall_mem_cons.mpr ⟨mz_494, (List.forall_mem_cons.mpr ⟨mz_498, (List.forall_mem_cons.mpr ⟨mz_499, (List.forall_mem_cons.mpr ⟨mz_500, (List.forall_mem_cons.mpr ⟨mz_255, (List.forall_mem_cons.mpr ⟨mz_256, (List.forall_mem_cons.mpr ⟨mz_257, (List.forall_mem_cons.mpr ⟨mz_67, (List.forall_mem_cons.mpr ⟨mz_501, (List.forall_mem_cons.mpr ⟨mz_242, (List.forall_mem_cons.mpr ⟨mz_243, (List.forall_mem_cons.mpr ⟨mz_77, (List.forall_mem_cons.mpr ⟨mz_244, (List.forall_mem_cons.mpr ⟨mz_80, (List.forall_mem_cons.mpr ⟨mz_576, (List.forall_mem_cons.mpr ⟨mz_503, (fun _ h => absurd h List.not_mem_nil)⟩)⟩)⟩)⟩)⟩)⟩)⟩)⟩)⟩)⟩)⟩)⟩)⟩)⟩)⟩)⟩)⟩)⟩)⟩)⟩)⟩)⟩)⟩)⟩)
theorem hz_wsX11_read_r4 : ∀ w ∈ wsX11_read_r4, w ∈ lw_tbl := (List.forall_mem_cons.mpr ⟨mz_504, (List.forall_mem_cons.mpr ⟨mz_505, (List.forall_mem_cons.mpr ⟨mz_508, (List.forall_mem_cons.mpr ⟨mz_509, (List.forall_mem_cons.mpr ⟨mz_510, (List.forall_mem_cons.mpr ⟨mz_511, (List.forall_mem_cons.mpr ⟨mz_512, (List.forall_mem_cons.mpr ⟨mz_439, (List.forall_mem_cons.mpr ⟨mz_440, (List.forall_mem_cons.mpr ⟨mz_441, (List.forall_mem_cons.mpr ⟨mz_249, (List.forall_mem_cons.mpr ⟨mz_577, (List.forall_mem_cons.mpr ⟨mz_578, (List.forall_mem_cons.mpr ⟨mz_514, (List.forall_mem_cons.mpr ⟨mz_515, (List.forall_mem_cons.mpr ⟨mz_516, (List.forall_mem_cons.mpr ⟨mz_517, (List.forall_mem_cons.mpr ⟨mz_518, (List.forall_mem_cons.mpr ⟨mz_519, (List.forall_mem_cons.mpr ⟨mz_520, (List.forall_mem_cons.mpr ⟨mz_579, (List.forall_mem_cons.mpr ⟨mz_551, (List.forall_mem_cons.mpr ⟨mz_552, (List.forall_mem_cons.mpr ⟨mz_553, (fun _ h => absurd h List.not_mem_nil)⟩)⟩)⟩)⟩)⟩)⟩)⟩)⟩)⟩)⟩)⟩)⟩)⟩)⟩)⟩)⟩)⟩)⟩)⟩)⟩)⟩)⟩)⟩)⟩)
theorem hz_wsX11_read : ∀ w ∈ wsX11_read, w ∈ lw_tbl := (List.forall_mem_cons.mpr ⟨mz_1100, (List.forall_mem_append.mpr ⟨(List.forall_mem_append.mpr ⟨(List.forall_mem_append.mpr ⟨(List.forall_mem_append.mpr ⟨(List.forall_mem_append.mpr ⟨(List.forall_mem_append.mpr ⟨hz_wsX11_read_r1, (List.forall_mem_append.mpr ⟨hz_wsX11_read_r2, (List.forall_mem_append.mpr ⟨hz_wsX11_read_r3, hz_wsX11_read_r4⟩)⟩)⟩), hz_wsX110⟩), hz_wsX70⟩), hz_wsX80⟩), hz_wsX60⟩), hz_wsX20⟩)⟩)
set_option maxRecDepth 100000 in
theorem mz_1107 : Cond.methodLink RL 155 yX11_read ∈ lw_tbl := lw_t5 _ (List.mem_of_getElem? (i := 37) rfl)
set_option maxRecDepth 100000 in
theorem mz_1108 : Cond.instanceMethod yX11_read ∈ lw_tbl := lw_t5 _ (List.mem_of_getElem? (i := 38) rfl)
set_option maxRecDepth 100000 in
theorem mz_1109 : Cond.selects RX11 yX11_read yX11_read ∈ lw_tbl := lw_t5 _ (List.mem_of_getElem? (i := 39) rfl)
set_option maxRecDepth 100000 in
theorem mz_1110 : Cond.code yX12_read cX12_read 10 (some .int) ∈ lw_tbl := lw_t7 _ (List.mem_of_getElem? (i := 31) rfl)
set_option maxRecDepth 100000 in
theorem mz_1111 : Cond.constantLong RX12 314 (20) ∈ lw_tbl := lw_t7 _ (List.mem_of_getElem? (i := 32) rfl)
set_option maxRecDepth 100000 in
theorem mz_1112 : Cond.fieldLink RX12 319 "LadleKingsModel" "torn" "I" ∈ lw_tbl := lw_t5 _ (List.mem_of_getElem? (i := 112) rfl)
set_option maxRecDepth 100000 in
theorem mz_1113 : Cond.methodLink RX12 316 yX12_day ∈ lw_tbl := lw_t7 _ (List.mem_of_getElem? (i := 33) rfl)
theorem hz_wsX12_read_r1 : ∀ w ∈ wsX12_read_r1, w ∈ lw_tbl := (List.forall_mem_cons.mpr ⟨mz_1111, (List.forall_mem_cons.mpr ⟨mz_1068, (List.forall_mem_cons.mpr ⟨mz_1069, (List.forall_mem_cons.mpr ⟨mz_1070, (List.forall_mem_cons.mpr ⟨mz_1112, (List.forall_mem_cons.mpr ⟨mz_1071, (List.forall_mem_cons.mpr ⟨mz_1072, (List.forall_mem_cons.mpr ⟨mz_22, (List.forall_mem_cons.mpr ⟨mz_1073, (List.forall_mem_cons.mpr ⟨mz_1074, (List.forall_mem_cons.mpr ⟨mz_1075, (List.forall_mem_cons.mpr ⟨mz_28, (List.forall_mem_cons.mpr ⟨mz_29, (List.forall_mem_cons.mpr ⟨mz_30, (List.forall_mem_cons.mpr ⟨mz_1020, (List.forall_mem_cons.mpr ⟨mz_1021, (List.forall_mem_cons.mpr ⟨mz_1022, (List.forall_mem_cons.mpr ⟨mz_1023, (List.forall_mem_cons.mpr ⟨mz_370, (List.forall_mem_cons.mpr ⟨mz_1113, (List.forall_mem_cons.mpr ⟨mz_590, (List.forall_mem_cons.mpr ⟨mz_591, (List.forall_mem_cons.mpr ⟨mz_583, (List.forall_mem_cons.mpr ⟨mz_446, (fun _ h => absurd h List.not_mem_nil)⟩)⟩)⟩)⟩)⟩)⟩)⟩)⟩)⟩)⟩)⟩)⟩)⟩)⟩)⟩)⟩)⟩)⟩)⟩)⟩)⟩)⟩)⟩)⟩)
theorem hz_wsX12_read_r2 : ∀ w ∈ wsX12_read_r2, w ∈ lw_tbl := (List.forall_mem_cons.mpr ⟨mz_447, (List.forall_mem_cons.mpr ⟨mz_448, (List.forall_mem_cons.mpr ⟨mz_449, (List.forall_mem_cons.mpr ⟨mz_372, (List.forall_mem_cons.mpr ⟨mz_584, (List.forall_mem_cons.mpr ⟨mz_585, (List.forall_mem_cons.mpr ⟨mz_586, (List.forall_mem_cons.mpr ⟨mz_587, (List.forall_mem_cons.mpr ⟨mz_371, (List.forall_mem_cons.mpr ⟨mz_588, (List.forall_mem_cons.mpr ⟨mz_374, (List.forall_mem_cons.mpr ⟨mz_525, (List.forall_mem_cons.mpr ⟨mz_558, (List.forall_mem_cons.mpr ⟨mz_559, (List.forall_mem_cons.mpr ⟨mz_560, (List.forall_mem_cons.mpr ⟨mz_561, (List.forall_mem_cons.mpr ⟨mz_526, (List.forall_mem_cons.mpr ⟨mz_527, (List.forall_mem_cons.mpr ⟨mz_528, (List.forall_mem_cons.mpr ⟨mz_529, (List.forall_mem_cons.mpr ⟨mz_530, (List.forall_mem_cons.mpr ⟨mz_531, (List.forall_mem_cons.mpr ⟨mz_532, (fun _ h => absurd h List.not_mem_nil)⟩)⟩)⟩)⟩)⟩)⟩)⟩)⟩)⟩)⟩)⟩)⟩)⟩)⟩)⟩)⟩)⟩)⟩)⟩)⟩)⟩)⟩)⟩)
theorem hz_wsX12_read : ∀ w ∈ wsX12_read, w ∈ lw_tbl := (List.forall_mem_cons.mpr ⟨mz_1110, (List.forall_mem_append.mpr ⟨(List.forall_mem_append.mpr ⟨hz_wsX12_read_r1, hz_wsX12_read_r2⟩), hz_wsX120⟩)⟩)
set_option maxRecDepth 100000 in
theorem mz_1114 : Cond.methodLink RL 159 yX12_read ∈ lw_tbl := lw_t7 _ (List.mem_of_getElem? (i := 28) rfl)
set_option maxRecDepth 100000 in
theorem mz_1115 : Cond.instanceMethod yX12_read ∈ lw_tbl := lw_t7 _ (List.mem_of_getElem? (i := 29) rfl)
set_option maxRecDepth 100000 in
theorem mz_1116 : Cond.selects RX12 yX12_read yX12_read ∈ lw_tbl := lw_t7 _ (List.mem_of_getElem? (i := 30) rfl)
set_option maxRecDepth 100000 in
theorem mz_1117 : Cond.code yX11_torn cX11_torn 1 (some .int) ∈ lw_tbl := lw_t5 _ (List.mem_of_getElem? (i := 48) rfl)
theorem hz_wsX11_torn : ∀ w ∈ wsX11_torn, w ∈ lw_tbl := (List.forall_mem_cons.mpr ⟨mz_1117, (List.forall_mem_append.mpr ⟨(List.forall_mem_cons.mpr ⟨mz_1102, (fun _ h => absurd h List.not_mem_nil)⟩), hz_wsX110⟩)⟩)
set_option maxRecDepth 100000 in
theorem mz_1118 : Cond.methodLink RL 160 yX11_torn ∈ lw_tbl := lw_t5 _ (List.mem_of_getElem? (i := 45) rfl)
set_option maxRecDepth 100000 in
theorem mz_1119 : Cond.instanceMethod yX11_torn ∈ lw_tbl := lw_t5 _ (List.mem_of_getElem? (i := 46) rfl)
set_option maxRecDepth 100000 in
theorem mz_1120 : Cond.selects RX11 yX11_torn yX11_torn ∈ lw_tbl := lw_t5 _ (List.mem_of_getElem? (i := 47) rfl)
set_option maxRecDepth 100000 in
theorem mz_1121 : Cond.code yX12_torn cX12_torn 1 (some .int) ∈ lw_tbl := lw_t7 _ (List.mem_of_getElem? (i := 37) rfl)
theorem hz_wsX12_torn : ∀ w ∈ wsX12_torn, w ∈ lw_tbl := (List.forall_mem_cons.mpr ⟨mz_1121, (List.forall_mem_append.mpr ⟨(List.forall_mem_cons.mpr ⟨mz_1112, (fun _ h => absurd h List.not_mem_nil)⟩), hz_wsX120⟩)⟩)
set_option maxRecDepth 100000 in
theorem mz_1122 : Cond.methodLink RL 163 yX12_torn ∈ lw_tbl := lw_t7 _ (List.mem_of_getElem? (i := 34) rfl)
set_option maxRecDepth 100000 in
theorem mz_1123 : Cond.instanceMethod yX12_torn ∈ lw_tbl := lw_t7 _ (List.mem_of_getElem? (i := 35) rfl)
set_option maxRecDepth 100000 in
theorem mz_1124 : Cond.selects RX12 yX12_torn yX12_torn ∈ lw_tbl := lw_t7 _ (List.mem_of_getElem? (i := 36) rfl)
set_option maxRecDepth 100000 in
theorem mz_1125 : Cond.code yX11_count cX11_count 2 (some .int) ∈ lw_tbl := lw_t5 _ (List.mem_of_getElem? (i := 52) rfl)
set_option maxRecDepth 100000 in
theorem mz_1126 : Cond.fieldLink RX11 303 "LadleKings$Sheet" "size" "I" ∈ lw_tbl := lw_t2 _ (List.mem_of_getElem? (i := 111) rfl)
set_option maxRecDepth 100000 in
theorem mz_1127 : Cond.methodLink RX11 299 yX7_isNothing ∈ lw_tbl := lw_t5 _ (List.mem_of_getElem? (i := 53) rfl)
set_option maxRecDepth 100000 in
theorem mz_1128 : Cond.methodLink RX11 306 yX11_piecesInPot ∈ lw_tbl := lw_t5 _ (List.mem_of_getElem? (i := 54) rfl)
set_option maxRecDepth 100000 in
theorem mz_1129 : Cond.instanceMethod yX11_piecesInPot ∈ lw_tbl := lw_t5 _ (List.mem_of_getElem? (i := 56) rfl)
theorem mz_1130 : Cond.selects RX11 yX11_piecesInPot yX11_piecesInPot ∈ lw_tbl := List.mem_of_getElem? (i := 32) (by decide +kernel)
set_option maxRecDepth 100000 in
theorem mz_1131 : Cond.code yX11_piecesInPot cX11_piecesInPot 3 (some .int) ∈ lw_tbl := lw_t5 _ (List.mem_of_getElem? (i := 57) rfl)
theorem hz_wsX11_count : ∀ w ∈ wsX11_count, w ∈ lw_tbl := (List.forall_mem_cons.mpr ⟨mz_1125, (List.forall_mem_append.mpr ⟨(List.forall_mem_append.mpr ⟨(List.forall_mem_append.mpr ⟨(List.forall_mem_append.mpr ⟨(List.forall_mem_append.mpr ⟨(List.forall_mem_cons.mpr ⟨mz_40, (List.forall_mem_cons.mpr ⟨mz_862, (List.forall_mem_cons.mpr ⟨mz_42, (List.forall_mem_cons.mpr ⟨mz_2, (List.forall_mem_cons.mpr ⟨mz_3, (List.forall_mem_cons.mpr ⟨mz_1048, (List.forall_mem_cons.mpr ⟨mz_1126, (List.forall_mem_cons.mpr ⟨mz_1127, (List.forall_mem_cons.mpr ⟨mz_1086, (List.forall_mem_cons.mpr ⟨mz_1087, (List.forall_mem_cons.mpr ⟨mz_1058, (List.forall_mem_cons.mpr ⟨mz_1088, (List.forall_mem_cons.mpr ⟨mz_1060, (List.forall_mem_cons.mpr ⟨mz_1128, (List.forall_mem_cons.mpr ⟨mz_1129, (List.forall_mem_cons.mpr ⟨mz_1130, (List.forall_mem_cons.mpr ⟨mz_14, (List.forall_mem_cons.mpr ⟨mz_1131, (List.forall_mem_cons.mpr ⟨mz_38, (List.forall_mem_cons.mpr ⟨mz_392, (List.forall_mem_cons.mpr ⟨mz_405, (fun _ h => absurd h List.not_mem_nil)⟩)⟩)⟩)⟩)⟩)⟩)⟩)⟩)⟩)⟩)⟩)⟩)⟩)⟩)⟩)⟩)⟩)⟩)⟩)⟩)⟩), hz_wsX110⟩), hz_wsX80⟩), hz_wsX90⟩), hz_wsX70⟩), hz_wsX60⟩)⟩)
set_option maxRecDepth 100000 in
theorem mz_1132 : Cond.methodLink RL 164 yX11_count ∈ lw_tbl := lw_t5 _ (List.mem_of_getElem? (i := 49) rfl)
set_option maxRecDepth 100000 in
theorem mz_1133 : Cond.instanceMethod yX11_count ∈ lw_tbl := lw_t5 _ (List.mem_of_getElem? (i := 50) rfl)
set_option maxRecDepth 100000 in
theorem mz_1134 : Cond.selects RX11 yX11_count yX11_count ∈ lw_tbl := lw_t5 _ (List.mem_of_getElem? (i := 51) rfl)
set_option maxRecDepth 100000 in
theorem mz_1135 : Cond.code yX12_count cX12_count 4 (some .int) ∈ lw_tbl := lw_t7 _ (List.mem_of_getElem? (i := 41) rfl)
theorem hz_wsX12_count : ∀ w ∈ wsX12_count, w ∈ lw_tbl := (List.forall_mem_cons.mpr ⟨mz_1135, (List.forall_mem_append.mpr ⟨(List.forall_mem_cons.mpr ⟨mz_371, (List.forall_mem_cons.mpr ⟨mz_370, (List.forall_mem_cons.mpr ⟨mz_375, (List.forall_mem_cons.mpr ⟨mz_16, (List.forall_mem_cons.mpr ⟨mz_1068, (List.forall_mem_cons.mpr ⟨mz_1069, (List.forall_mem_cons.mpr ⟨mz_530, (List.forall_mem_cons.mpr ⟨mz_531, (List.forall_mem_cons.mpr ⟨mz_22, (List.forall_mem_cons.mpr ⟨mz_532, (fun _ h => absurd h List.not_mem_nil)⟩)⟩)⟩)⟩)⟩)⟩)⟩)⟩)⟩)⟩), hz_wsX120⟩)⟩)
set_option maxRecDepth 100000 in
theorem mz_1136 : Cond.methodLink RL 167 yX12_count ∈ lw_tbl := lw_t7 _ (List.mem_of_getElem? (i := 38) rfl)
set_option maxRecDepth 100000 in
theorem mz_1137 : Cond.instanceMethod yX12_count ∈ lw_tbl := lw_t7 _ (List.mem_of_getElem? (i := 39) rfl)
set_option maxRecDepth 100000 in
theorem mz_1138 : Cond.selects RX12 yX12_count yX12_count ∈ lw_tbl := lw_t7 _ (List.mem_of_getElem? (i := 40) rfl)
set_option maxRecDepth 100000 in
theorem mz_1139 : Cond.code yX11_init cX11_init 2 none ∈ lw_tbl := lw_t1 _ (List.mem_of_getElem? (i := 26) rfl)
set_option maxRecDepth 100000 in
theorem mz_1140 : Cond.methodLink RX11 1 objectInit ∈ lw_tbl := lw_t1 _ (List.mem_of_getElem? (i := 27) rfl)
set_option maxRecDepth 100000 in
theorem mz_1141 : Cond.instanceMethod objectInit ∈ lw_tbl := lw_t1 _ (List.mem_of_getElem? (i := 28) rfl)
set_option maxRecDepth 100000 in
theorem mz_1142 : Cond.code objectInit ⟨#[0xb1]⟩ 1 none ∈ lw_tbl := lw_t1 _ (List.mem_of_getElem? (i := 29) rfl)
set_option maxRecDepth 100000 in
theorem mz_1143 : Cond.classLink RX11 7 RX6 ∈ lw_tbl := lw_t1 _ (List.mem_of_getElem? (i := 30) rfl)
set_option maxRecDepth 100000 in
theorem mz_1144 : Cond.instantiable RX6 7 ∈ lw_tbl := lw_t1 _ (List.mem_of_getElem? (i := 31) rfl)
set_option maxRecDepth 100000 in
theorem mz_1145 : Cond.classLink RX11 16 RX8 ∈ lw_tbl := lw_t1 _ (List.mem_of_getElem? (i := 74) rfl)
set_option maxRecDepth 100000 in
theorem mz_1146 : Cond.instantiable RX8 9 ∈ lw_tbl := lw_t1 _ (List.mem_of_getElem? (i := 75) rfl)
set_option maxRecDepth 100000 in
theorem mz_1147 : Cond.classLink RX11 23 RX9 ∈ lw_tbl := lw_t1 _ (List.mem_of_getElem? (i := 141) rfl)
set_option maxRecDepth 100000 in
theorem mz_1148 : Cond.instantiable RX9 6 ∈ lw_tbl := lw_t1 _ (List.mem_of_getElem? (i := 142) rfl)
set_option maxRecDepth 100000 in
theorem mz_1149 : Cond.classLink RX11 30 RX10 ∈ lw_tbl := lw_t1 _ (List.mem_of_getElem? (i := 172) rfl)
set_option maxRecDepth 100000 in
theorem mz_1150 : Cond.instantiable RX10 9 ∈ lw_tbl := lw_t1 _ (List.mem_of_getElem? (i := 173) rfl)
set_option maxRecDepth 100000 in
theorem mz_1151 : Cond.classLink RX11 39 RX2 ∈ lw_tbl := lw_t1 _ (List.mem_of_getElem? (i := 213) rfl)
set_option maxRecDepth 100000 in
theorem mz_1152 : Cond.instantiable RX2 5 ∈ lw_tbl := lw_t1 _ (List.mem_of_getElem? (i := 214) rfl)
set_option maxRecDepth 100000 in
theorem mz_1153 : Cond.classLink RX11 48 RX3 ∈ lw_tbl := lw_t2 _ (List.mem_of_getElem? (i := 5) rfl)
theorem hz_wsX11_init_r1 : ∀ w ∈ wsX11_init_r1, w ∈ lw_tbl := (List.forall_mem_cons.mpr ⟨mz_1140, (List.forall_mem_cons.mpr ⟨mz_1141, (List.forall_mem_cons.mpr ⟨mz_1142, (List.forall_mem_cons.mpr ⟨mz_1143, (List.forall_mem_cons.mpr ⟨mz_1144, (List.forall_mem_cons.mpr ⟨mz_65, (List.forall_mem_cons.mpr ⟨mz_38, (List.forall_mem_cons.mpr ⟨mz_1145, (List.forall_mem_cons.mpr ⟨mz_1146, (List.forall_mem_cons.mpr ⟨mz_77, (List.forall_mem_cons.mpr ⟨mz_40, (List.forall_mem_cons.mpr ⟨mz_1147, (List.forall_mem_cons.mpr ⟨mz_1148, (List.forall_mem_cons.mpr ⟨mz_7, (List.forall_mem_cons.mpr ⟨mz_2, (List.forall_mem_cons.mpr ⟨mz_1149, (List.forall_mem_cons.mpr ⟨mz_1150, (List.forall_mem_cons.mpr ⟨mz_46, (List.forall_mem_cons.mpr ⟨mz_35, (List.forall_mem_cons.mpr ⟨mz_1151, (List.forall_mem_cons.mpr ⟨mz_1152, (List.forall_mem_cons.mpr ⟨mz_493, (List.forall_mem_cons.mpr ⟨mz_489, (List.forall_mem_cons.mpr ⟨mz_1153, (fun _ h => absurd h List.not_mem_nil)⟩)⟩)⟩)⟩)⟩)⟩)⟩)⟩)⟩)⟩)⟩)⟩)⟩)⟩)⟩)⟩)⟩)⟩)⟩)⟩)⟩)⟩)⟩)⟩)
set_option maxRecDepth 100000 in
theorem mz_1154 : Cond.instantiable RX3 4 ∈ lw_tbl := lw_t2 _ (List.mem_of_getElem? (i := 6) rfl)
set_option maxRecDepth 100000 in
theorem mz_1155 : Cond.classLink RX11 57 RX5 ∈ lw_tbl := lw_t2 _ (List.mem_of_getElem? (i := 25) rfl)
set_option maxRecDepth 100000 in
theorem mz_1156 : Cond.instantiable RX5 3 ∈ lw_tbl := lw_t2 _ (List.mem_of_getElem? (i := 26) rfl)
set_option maxRecDepth 100000 in
theorem mz_1157 : Cond.classLink RX11 64 RX0 ∈ lw_tbl := lw_t2 _ (List.mem_of_getElem? (i := 42) rfl)
set_option maxRecDepth 100000 in
theorem mz_1158 : Cond.instantiable RX0 1 ∈ lw_tbl := lw_t2 _ (List.mem_of_getElem? (i := 43) rfl)
set_option maxRecDepth 100000 in
theorem mz_1159 : Cond.classLink RX11 71 RX4 ∈ lw_tbl := lw_t2 _ (List.mem_of_getElem? (i := 52) rfl)
set_option maxRecDepth 100000 in
theorem mz_1160 : Cond.instantiable RX4 2 ∈ lw_tbl := lw_t2 _ (List.mem_of_getElem? (i := 53) rfl)
set_option maxRecDepth 100000 in
theorem mz_1161 : Cond.classLink RX11 78 RX1 ∈ lw_tbl := lw_t2 _ (List.mem_of_getElem? (i := 65) rfl)
set_option maxRecDepth 100000 in
theorem mz_1162 : Cond.instantiable RX1 9 ∈ lw_tbl := lw_t2 _ (List.mem_of_getElem? (i := 66) rfl)
set_option maxRecDepth 100000 in
theorem mz_1163 : Cond.arrayClass .boolean ∈ lw_tbl := lw_t2 _ (List.mem_of_getElem? (i := 121) rfl)
set_option maxRecDepth 100000 in
theorem mz_1164 : Cond.classLink RX11 93 RX7 ∈ lw_tbl := lw_t2 _ (List.mem_of_getElem? (i := 101) rfl)
theorem hz_wsX11_init_r2 : ∀ w ∈ wsX11_init_r2, w ∈ lw_tbl := (List.forall_mem_cons.mpr ⟨mz_1154, (List.forall_mem_cons.mpr ⟨mz_610, (List.forall_mem_cons.mpr ⟨mz_603, (List.forall_mem_cons.mpr ⟨mz_1155, (List.forall_mem_cons.mpr ⟨mz_1156, (List.forall_mem_cons.mpr ⟨mz_714, (List.forall_mem_cons.mpr ⟨mz_706, (List.forall_mem_cons.mpr ⟨mz_1157, (List.forall_mem_cons.mpr ⟨mz_1158, (List.forall_mem_cons.mpr ⟨mz_804, (List.forall_mem_cons.mpr ⟨mz_799, (List.forall_mem_cons.mpr ⟨mz_1159, (List.forall_mem_cons.mpr ⟨mz_1160, (List.forall_mem_cons.mpr ⟨mz_884, (List.forall_mem_cons.mpr ⟨mz_880, (List.forall_mem_cons.mpr ⟨mz_1161, (List.forall_mem_cons.mpr ⟨mz_1162, (List.forall_mem_cons.mpr ⟨mz_966, (List.forall_mem_cons.mpr ⟨mz_961, (List.forall_mem_cons.mpr ⟨mz_1028, (List.forall_mem_cons.mpr ⟨mz_1163, (List.forall_mem_cons.mpr ⟨mz_42, (List.forall_mem_cons.mpr ⟨mz_1164, (List.forall_mem_cons.mpr ⟨mz_1048, (fun _ h => absurd h List.not_mem_nil)⟩)⟩)⟩)⟩)⟩)⟩)⟩)⟩)⟩)⟩)⟩)⟩)⟩)⟩)⟩)⟩)⟩)⟩)⟩)⟩)⟩)⟩)⟩)⟩)
set_option maxRecDepth 100000 in
theorem mz_1165 : Cond.instantiable RX7 3 ∈ lw_tbl := lw_t2 _ (List.mem_of_getElem? (i := 103) rfl)
set_option maxRecDepth 100000 in
theorem mz_1166 : Cond.instanceMethod yX6_init ∈ lw_tbl := lw_t1 _ (List.mem_of_getElem? (i := 33) rfl)
set_option maxRecDepth 100000 in
theorem mz_1167 : Cond.code yX6_init cX6_init 1 none ∈ lw_tbl := lw_t1 _ (List.mem_of_getElem? (i := 34) rfl)
set_option maxRecDepth 100000 in
theorem mz_1168 : Cond.methodLink RX6 3 objectInit ∈ lw_tbl := lw_t1 _ (List.mem_of_getElem? (i := 35) rfl)
set_option maxRecDepth 100000 in
theorem mz_1169 : Cond.arrayClass .int ∈ lw_tbl := lw_t1 _ (List.mem_of_getElem? (i := 73) rfl)
set_option maxRecDepth 100000 in
theorem mz_1170 : Cond.methodLink RX11 18 yX8_init ∈ lw_tbl := lw_t1 _ (List.mem_of_getElem? (i := 76) rfl)
set_option maxRecDepth 100000 in
theorem mz_1171 : Cond.instanceMethod yX8_init ∈ lw_tbl := lw_t1 _ (List.mem_of_getElem? (i := 77) rfl)
set_option maxRecDepth 100000 in
theorem mz_1172 : Cond.code yX8_init cX8_init 1 none ∈ lw_tbl := lw_t1 _ (List.mem_of_getElem? (i := 78) rfl)
set_option maxRecDepth 100000 in
theorem mz_1173 : Cond.methodLink RX8 3 objectInit ∈ lw_tbl := lw_t1 _ (List.mem_of_getElem? (i := 79) rfl)
theorem hz_wsX11_init_r3 : ∀ w ∈ wsX11_init_r3, w ∈ lw_tbl := (List.forall_mem_cons.mpr ⟨mz_37, (List.forall_mem_cons.mpr ⟨mz_1102, (List.forall_mem_cons.mpr ⟨mz_1165, (List.forall_mem_cons.mpr ⟨mz_1058, (List.forall_mem_cons.mpr ⟨mz_1166, (List.forall_mem_cons.mpr ⟨mz_1167, (List.forall_mem_cons.mpr ⟨mz_1168, (List.forall_mem_cons.mpr ⟨mz_67, (List.forall_mem_cons.mpr ⟨mz_68, (List.forall_mem_cons.mpr ⟨mz_1169, (List.forall_mem_cons.mpr ⟨mz_69, (List.forall_mem_cons.mpr ⟨mz_226, (List.forall_mem_cons.mpr ⟨mz_227, (List.forall_mem_cons.mpr ⟨mz_228, (List.forall_mem_cons.mpr ⟨mz_249, (List.forall_mem_cons.mpr ⟨mz_1170, (List.forall_mem_cons.mpr ⟨mz_1171, (List.forall_mem_cons.mpr ⟨mz_1172, (List.forall_mem_cons.mpr ⟨mz_1173, (List.forall_mem_cons.mpr ⟨mz_79, (List.forall_mem_cons.mpr ⟨mz_80, (List.forall_mem_cons.mpr ⟨mz_81, (List.forall_mem_cons.mpr ⟨mz_82, (List.forall_mem_cons.mpr ⟨mz_274, (fun _ h => absurd h List.not_mem_nil)⟩)⟩)⟩)⟩)⟩)⟩)⟩)⟩)⟩)⟩)⟩)⟩)⟩)⟩)⟩)⟩)⟩)⟩)⟩)⟩)⟩)⟩)⟩)⟩)
set_option maxRecDepth 100000 in
theorem mz_1174 : Cond.instanceMethod yX9_init ∈ lw_tbl := lw_t1 _ (List.mem_of_getElem? (i := 144) rfl)
set_option maxRecDepth 100000 in
theorem mz_1175 : Cond.code yX9_init cX9_init 1 none ∈ lw_tbl := lw_t1 _ (List.mem_of_getElem? (i := 145) rfl)
set_option maxRecDepth 100000 in
theorem mz_1176 : Cond.methodLink RX9 3 objectInit ∈ lw_tbl := lw_t1 _ (List.mem_of_getElem? (i := 146) rfl)
set_option maxRecDepth 100000 in
theorem mz_1177 : Cond.arrayClass .byte ∈ lw_tbl := lw_t1 _ (List.mem_of_getElem? (i := 171) rfl)
set_option maxRecDepth 100000 in
theorem mz_1178 : Cond.methodLink RX11 32 yX10_init ∈ lw_tbl := lw_t1 _ (List.mem_of_getElem? (i := 174) rfl)
set_option maxRecDepth 100000 in
theorem mz_1179 : Cond.instanceMethod yX10_init ∈ lw_tbl := lw_t1 _ (List.mem_of_getElem? (i := 175) rfl)
set_option maxRecDepth 100000 in
theorem mz_1180 : Cond.code yX10_init cX10_init 2 none ∈ lw_tbl := lw_t1 _ (List.mem_of_getElem? (i := 176) rfl)
set_option maxRecDepth 100000 in
theorem mz_1181 : Cond.methodLink RX10 3 objectInit ∈ lw_tbl := lw_t1 _ (List.mem_of_getElem? (i := 177) rfl)
set_option maxRecDepth 100000 in
theorem mz_1182 : Cond.classLink RX10 9 RX6 ∈ lw_tbl := lw_t1 _ (List.mem_of_getElem? (i := 178) rfl)
theorem hz_wsX11_init_r4 : ∀ w ∈ wsX11_init_r4, w ∈ lw_tbl := (List.forall_mem_cons.mpr ⟨mz_83, (List.forall_mem_cons.mpr ⟨mz_84, (List.forall_mem_cons.mpr ⟨mz_85, (List.forall_mem_cons.mpr ⟨mz_86, (List.forall_mem_cons.mpr ⟨mz_87, (List.forall_mem_cons.mpr ⟨mz_71, (List.forall_mem_cons.mpr ⟨mz_72, (List.forall_mem_cons.mpr ⟨mz_73, (List.forall_mem_cons.mpr ⟨mz_1174, (List.forall_mem_cons.mpr ⟨mz_1175, (List.forall_mem_cons.mpr ⟨mz_1176, (List.forall_mem_cons.mpr ⟨mz_1177, (List.forall_mem_cons.mpr ⟨mz_10, (List.forall_mem_cons.mpr ⟨mz_9, (List.forall_mem_cons.mpr ⟨mz_92, (List.forall_mem_cons.mpr ⟨mz_108, (List.forall_mem_cons.mpr ⟨mz_107, (List.forall_mem_cons.mpr ⟨mz_123, (List.forall_mem_cons.mpr ⟨mz_1178, (List.forall_mem_cons.mpr ⟨mz_1179, (List.forall_mem_cons.mpr ⟨mz_1180, (List.forall_mem_cons.mpr ⟨mz_1181, (List.forall_mem_cons.mpr ⟨mz_1182, (List.forall_mem_cons.mpr ⟨mz_50, (fun _ h => absurd h List.not_mem_nil)⟩)⟩)⟩)⟩)⟩)⟩)⟩)⟩)⟩)⟩)⟩)⟩)⟩)⟩)⟩)⟩)⟩)⟩)⟩)⟩)⟩)⟩)⟩)⟩)
set_option maxRecDepth 100000 in
theorem mz_1183 : Cond.classLink RX10 18 RX8 ∈ lw_tbl := lw_t1 _ (List.mem_of_getElem? (i := 180) rfl)
set_option maxRecDepth 100000 in
theorem mz_1184 : Cond.methodLink RX10 20 yX8_init ∈ lw_tbl := lw_t1 _ (List.mem_of_getElem? (i := 181) rfl)
set_option maxRecDepth 100000 in
theorem mz_1185 : Cond.methodLink RX11 41 yX2_init ∈ lw_tbl := lw_t1 _ (List.mem_of_getElem? (i := 215) rfl)
set_option maxRecDepth 100000 in
theorem mz_1186 : Cond.instanceMethod yX2_init ∈ lw_tbl := lw_t1 _ (List.mem_of_getElem? (i := 216) rfl)
set_option maxRecDepth 100000 in
theorem mz_1187 : Cond.code yX2_init cX2_init 3 none ∈ lw_tbl := lw_t1 _ (List.mem_of_getElem? (i := 217) rfl)
set_option maxRecDepth 100000 in
theorem mz_1188 : Cond.methodLink RX2 3 objectInit ∈ lw_tbl := lw_t1 _ (List.mem_of_getElem? (i := 218) rfl)
set_option maxRecDepth 100000 in
theorem mz_1189 : Cond.methodLink RX11 50 yX3_init ∈ lw_tbl := lw_t2 _ (List.mem_of_getElem? (i := 7) rfl)
set_option maxRecDepth 100000 in
theorem mz_1190 : Cond.instanceMethod yX3_init ∈ lw_tbl := lw_t2 _ (List.mem_of_getElem? (i := 8) rfl)
set_option maxRecDepth 100000 in
theorem mz_1191 : Cond.code yX3_init cX3_init 2 none ∈ lw_tbl := lw_t2 _ (List.mem_of_getElem? (i := 9) rfl)
set_option maxRecDepth 100000 in
theorem mz_1192 : Cond.methodLink RX3 3 objectInit ∈ lw_tbl := lw_t2 _ (List.mem_of_getElem? (i := 10) rfl)
set_option maxRecDepth 100000 in
theorem mz_1193 : Cond.arrayClass .long ∈ lw_tbl := lw_t2 _ (List.mem_of_getElem? (i := 24) rfl)
theorem hz_wsX11_init_r5 : ∀ w ∈ wsX11_init_r5, w ∈ lw_tbl := (List.forall_mem_cons.mpr ⟨mz_1183, (List.forall_mem_cons.mpr ⟨mz_60, (List.forall_mem_cons.mpr ⟨mz_48, (List.forall_mem_cons.mpr ⟨mz_54, (List.forall_mem_cons.mpr ⟨mz_55, (List.forall_mem_cons.mpr ⟨mz_61, (List.forall_mem_cons.mpr ⟨mz_49, (List.forall_mem_cons.mpr ⟨mz_101, (List.forall_mem_cons.mpr ⟨mz_52, (List.forall_mem_cons.mpr ⟨mz_1184, (List.forall_mem_cons.mpr ⟨mz_1185, (List.forall_mem_cons.mpr ⟨mz_1186, (List.forall_mem_cons.mpr ⟨mz_1187, (List.forall_mem_cons.mpr ⟨mz_1188, (List.forall_mem_cons.mpr ⟨mz_498, (List.forall_mem_cons.mpr ⟨mz_499, (List.forall_mem_cons.mpr ⟨mz_507, (List.forall_mem_cons.mpr ⟨mz_495, (List.forall_mem_cons.mpr ⟨mz_497, (List.forall_mem_cons.mpr ⟨mz_1189, (List.forall_mem_cons.mpr ⟨mz_1190, (List.forall_mem_cons.mpr ⟨mz_1191, (List.forall_mem_cons.mpr ⟨mz_1192, (List.forall_mem_cons.mpr ⟨mz_1193, (fun _ h => absurd h List.not_mem_nil)⟩)⟩)⟩)⟩)⟩)⟩)⟩)⟩)⟩)⟩)⟩)⟩)⟩)⟩)⟩)⟩)⟩)⟩)⟩)⟩)⟩)⟩)⟩)⟩)
set_option maxRecDepth 100000 in
theorem mz_1194 : Cond.methodLink RX11 59 yX5_init ∈ lw_tbl := lw_t2 _ (List.mem_of_getElem? (i := 27) rfl)
set_option maxRecDepth 100000 in
theorem mz_1195 : Cond.instanceMethod yX5_init ∈ lw_tbl := lw_t2 _ (List.mem_of_getElem? (i := 28) rfl)
set_option maxRecDepth 100000 in
theorem mz_1196 : Cond.code yX5_init cX5_init 2 none ∈ lw_tbl := lw_t2 _ (List.mem_of_getElem? (i := 29) rfl)
set_option maxRecDepth 100000 in
theorem mz_1197 : Cond.methodLink RX5 3 objectInit ∈ lw_tbl := lw_t2 _ (List.mem_of_getElem? (i := 30) rfl)
set_option maxRecDepth 100000 in
theorem mz_1198 : Cond.methodLink RX11 66 yX0_init ∈ lw_tbl := lw_t2 _ (List.mem_of_getElem? (i := 44) rfl)
set_option maxRecDepth 100000 in
theorem mz_1199 : Cond.instanceMethod yX0_init ∈ lw_tbl := lw_t2 _ (List.mem_of_getElem? (i := 45) rfl)
set_option maxRecDepth 100000 in
theorem mz_1200 : Cond.code yX0_init cX0_init 2 none ∈ lw_tbl := lw_t2 _ (List.mem_of_getElem? (i := 46) rfl)
set_option maxRecDepth 100000 in
theorem mz_1201 : Cond.methodLink RX0 3 objectInit ∈ lw_tbl := lw_t2 _ (List.mem_of_getElem? (i := 47) rfl)
set_option maxRecDepth 100000 in
theorem mz_1202 : Cond.methodLink RX11 73 yX4_init ∈ lw_tbl := lw_t2 _ (List.mem_of_getElem? (i := 54) rfl)
set_option maxRecDepth 100000 in
theorem mz_1203 : Cond.instanceMethod yX4_init ∈ lw_tbl := lw_t2 _ (List.mem_of_getElem? (i := 55) rfl)
set_option maxRecDepth 100000 in
theorem mz_1204 : Cond.code yX4_init cX4_init 2 none ∈ lw_tbl := lw_t2 _ (List.mem_of_getElem? (i := 56) rfl)
set_option maxRecDepth 100000 in
theorem mz_1205 : Cond.methodLink RX4 3 objectInit ∈ lw_tbl := lw_t2 _ (List.mem_of_getElem? (i := 57) rfl)
set_option maxRecDepth 100000 in
theorem mz_1206 : Cond.methodLink RX11 80 yX1_init ∈ lw_tbl := lw_t2 _ (List.mem_of_getElem? (i := 67) rfl)
set_option maxRecDepth 100000 in
theorem mz_1207 : Cond.instanceMethod yX1_init ∈ lw_tbl := lw_t2 _ (List.mem_of_getElem? (i := 68) rfl)
theorem hz_wsX11_init_r6 : ∀ w ∈ wsX11_init_r6, w ∈ lw_tbl := (List.forall_mem_cons.mpr ⟨mz_617, (List.forall_mem_cons.mpr ⟨mz_632, (List.forall_mem_cons.mpr ⟨mz_951, (List.forall_mem_cons.mpr ⟨mz_616, (List.forall_mem_cons.mpr ⟨mz_1194, (List.forall_mem_cons.mpr ⟨mz_1195, (List.forall_mem_cons.mpr ⟨mz_1196, (List.forall_mem_cons.mpr ⟨mz_1197, (List.forall_mem_cons.mpr ⟨mz_717, (List.forall_mem_cons.mpr ⟨mz_754, (List.forall_mem_cons.mpr ⟨mz_716, (List.forall_mem_cons.mpr ⟨mz_1198, (List.forall_mem_cons.mpr ⟨mz_1199, (List.forall_mem_cons.mpr ⟨mz_1200, (List.forall_mem_cons.mpr ⟨mz_1201, (List.forall_mem_cons.mpr ⟨mz_806, (List.forall_mem_cons.mpr ⟨mz_1202, (List.forall_mem_cons.mpr ⟨mz_1203, (List.forall_mem_cons.mpr ⟨mz_1204, (List.forall_mem_cons.mpr ⟨mz_1205, (List.forall_mem_cons.mpr ⟨mz_892, (List.forall_mem_cons.mpr ⟨mz_886, (List.forall_mem_cons.mpr ⟨mz_1206, (List.forall_mem_cons.mpr ⟨mz_1207, (fun _ h => absurd h List.not_mem_nil)⟩)⟩)⟩)⟩)⟩)⟩)⟩)⟩)⟩)⟩)⟩)⟩)⟩)⟩)⟩)⟩)⟩)⟩)⟩)⟩)⟩)⟩)⟩)⟩)
set_option maxRecDepth 100000 in
theorem mz_1208 : Cond.code yX1_init cX1_init 2 none ∈ lw_tbl := lw_t2 _ (List.mem_of_getElem? (i := 69) rfl)
set_option maxRecDepth 100000 in
theorem mz_1209 : Cond.methodLink RX1 3 objectInit ∈ lw_tbl := lw_t2 _ (List.mem_of_getElem? (i := 70) rfl)
set_option maxRecDepth 100000 in
theorem mz_1210 : Cond.instanceMethod yX7_init ∈ lw_tbl := lw_t2 _ (List.mem_of_getElem? (i := 105) rfl)
set_option maxRecDepth 100000 in
theorem mz_1211 : Cond.code yX7_init cX7_init 1 none ∈ lw_tbl := lw_t2 _ (List.mem_of_getElem? (i := 106) rfl)
set_option maxRecDepth 100000 in
theorem mz_1212 : Cond.methodLink RX7 3 objectInit ∈ lw_tbl := lw_t2 _ (List.mem_of_getElem? (i := 107) rfl)
theorem hz_wsX11_init_r7 : ∀ w ∈ wsX11_init_r7, w ∈ lw_tbl := (List.forall_mem_cons.mpr ⟨mz_1208, (List.forall_mem_cons.mpr ⟨mz_1209, (List.forall_mem_cons.mpr ⟨mz_980, (List.forall_mem_cons.mpr ⟨mz_984, (List.forall_mem_cons.mpr ⟨mz_986, (List.forall_mem_cons.mpr ⟨mz_988, (List.forall_mem_cons.mpr ⟨mz_985, (List.forall_mem_cons.mpr ⟨mz_1004, (List.forall_mem_cons.mpr ⟨mz_971, (List.forall_mem_cons.mpr ⟨mz_972, (List.forall_mem_cons.mpr ⟨mz_977, (List.forall_mem_cons.mpr ⟨mz_1210, (List.forall_mem_cons.mpr ⟨mz_1211, (List.forall_mem_cons.mpr ⟨mz_1212, (List.forall_mem_cons.mpr ⟨mz_1060, (List.forall_mem_cons.mpr ⟨mz_1061, (List.forall_mem_cons.mpr ⟨mz_1062, (fun _ h => absurd h List.not_mem_nil)⟩)⟩)⟩)⟩)⟩)⟩)⟩)⟩)⟩)⟩)⟩)⟩)⟩)⟩)⟩)⟩)⟩)
theorem hz_wsX11_init : ∀ w ∈ wsX11_init, w ∈ lw_tbl := (List.forall_mem_cons.mpr ⟨mz_1139, (List.forall_mem_append.mpr ⟨(List.forall_mem_append.mpr ⟨(List.forall_mem_append.mpr ⟨(List.forall_mem_append.mpr ⟨(List.forall_mem_append.mpr ⟨(List.forall_mem_append.mpr ⟨(List.forall_mem_append.mpr ⟨(List.forall_mem_append.mpr ⟨(List.forall_mem_append.mpr ⟨(List.forall_mem_append.mpr ⟨(List.forall_mem_append.mpr ⟨(List.forall_mem_append.mpr ⟨(List.forall_mem_append.mpr ⟨hz_wsX11_init_r1, (List.forall_mem_append.mpr ⟨hz_wsX11_init_r2, (List.forall_mem_append.mpr ⟨hz_wsX11_init_r3, (List.forall_mem_append.mpr ⟨hz_wsX11_init_r4, (List.forall_mem_append.mpr ⟨hz_wsX11_init_r5, (List.forall_mem_append.mpr ⟨hz_wsX11_init_r6, hz_wsX11_init_r7⟩)⟩)⟩)⟩)⟩)⟩), hz_wsX60⟩), hz_wsX110⟩), hz_wsX80⟩), hz_wsX90⟩), hz_wsX100⟩), hz_wsX20⟩), hz_wsX30⟩), hz_wsX50⟩), hz_wsX00⟩), hz_wsX40⟩), hz_wsX10⟩), hz_wsX70⟩)⟩)
set_option maxRecDepth 100000 in
theorem mz_1213 : Cond.code yX12_init cX12_init 2 none ∈ lw_tbl := lw_t5 _ (List.mem_of_getElem? (i := 62) rfl)
set_option maxRecDepth 100000 in
theorem mz_1214 : Cond.methodLink RX12 1 objectInit ∈ lw_tbl := lw_t5 _ (List.mem_of_getElem? (i := 63) rfl)
theorem hz_wsX12_init_r1 : ∀ w ∈ wsX12_init_r1, w ∈ lw_tbl := (List.forall_mem_cons.mpr ⟨mz_1214, (List.forall_mem_cons.mpr ⟨mz_1141, (List.forall_mem_cons.mpr ⟨mz_1142, (List.forall_mem_cons.mpr ⟨mz_1169, (List.forall_mem_cons.mpr ⟨mz_370, (List.forall_mem_cons.mpr ⟨mz_1163, (List.forall_mem_cons.mpr ⟨mz_375, (List.forall_mem_cons.mpr ⟨mz_374, (List.forall_mem_cons.mpr ⟨mz_373, (List.forall_mem_cons.mpr ⟨mz_289, (List.forall_mem_cons.mpr ⟨mz_365, (List.forall_mem_cons.mpr ⟨mz_290, (List.forall_mem_cons.mpr ⟨mz_17, (List.forall_mem_cons.mpr ⟨mz_525, (List.forall_mem_cons.mpr ⟨mz_588, (List.forall_mem_cons.mpr ⟨mz_1193, (List.forall_mem_cons.mpr ⟨mz_663, (List.forall_mem_cons.mpr ⟨mz_675, (List.forall_mem_cons.mpr ⟨mz_768, (List.forall_mem_cons.mpr ⟨mz_789, (List.forall_mem_cons.mpr ⟨mz_841, (List.forall_mem_cons.mpr ⟨mz_840, (List.forall_mem_cons.mpr ⟨mz_923, (List.forall_mem_cons.mpr ⟨mz_941, (fun _ h => absurd h List.not_mem_nil)⟩)⟩)⟩)⟩)⟩)⟩)⟩)⟩)⟩)⟩)⟩)⟩)⟩)⟩)⟩)⟩)⟩)⟩)⟩)⟩)⟩)⟩)⟩)⟩)
theorem hz_wsX12_init_r2 : ∀ w ∈ wsX12_init_r2, w ∈ lw_tbl := (List.forall_mem_cons.mpr ⟨mz_942, (List.forall_mem_cons.mpr ⟨mz_1015, (List.forall_mem_cons.mpr ⟨mz_1068, (List.forall_mem_cons.mpr ⟨mz_1069, (List.forall_mem_cons.mpr ⟨mz_1070, (List.forall_mem_cons.mpr ⟨mz_285, (List.forall_mem_cons.mpr ⟨mz_286, (List.forall_mem_cons.mpr ⟨mz_287, (List.forall_mem_cons.mpr ⟨mz_22, (List.forall_mem_cons.mpr ⟨mz_288, (List.forall_mem_cons.mpr ⟨mz_283, (List.forall_mem_cons.mpr ⟨mz_291, (List.forall_mem_cons.mpr ⟨mz_292, (List.forall_mem_cons.mpr ⟨mz_282, (List.forall_mem_cons.mpr ⟨mz_366, (List.forall_mem_cons.mpr ⟨mz_367, (List.forall_mem_cons.mpr ⟨mz_368, (List.forall_mem_cons.mpr ⟨mz_369, (List.forall_mem_cons.mpr ⟨mz_371, (List.forall_mem_cons.mpr ⟨mz_372, (List.forall_mem_cons.mpr ⟨mz_376, (List.forall_mem_cons.mpr ⟨mz_377, (List.forall_mem_cons.mpr ⟨mz_378, (List.forall_mem_cons.mpr ⟨mz_379, (fun _ h => absurd h List.not_mem_nil)⟩)⟩)⟩)⟩)⟩)⟩)⟩)⟩)⟩)⟩)⟩)⟩)⟩)⟩)⟩)⟩)⟩)⟩)⟩)⟩)⟩)⟩)⟩)⟩)
theorem hz_wsX12_init : ∀ w ∈ wsX12_init, w ∈ lw_tbl := (List.forall_mem_cons.mpr ⟨mz_1213, (List.forall_mem_append.mpr ⟨(List.forall_mem_append.mpr ⟨hz_wsX12_init_r1, hz_wsX12_init_r2⟩), hz_wsX120⟩)⟩)
theorem gT_X11_feed : GoodIn lw_tbl (wsV RL 15 RX11 yX11_feed wsX11_feed) := goodIn_app (goodIn_sub (List.forall_mem_cons.mpr ⟨mz_11, (List.forall_mem_cons.mpr ⟨mz_12, (List.forall_mem_cons.mpr ⟨mz_13, (List.forall_mem_cons.mpr ⟨mz_14, (fun _ h => absurd h List.not_mem_nil)⟩)⟩)⟩)⟩) (by decide +kernel)) (goodIn_sub hz_wsX11_feed (by decide +kernel))
theorem gT_X12_feed : GoodIn lw_tbl (wsV RL 19 RX12 yX12_feed wsX12_feed) := goodIn_app (goodIn_sub (List.forall_mem_cons.mpr ⟨mz_19, (List.forall_mem_cons.mpr ⟨mz_20, (List.forall_mem_cons.mpr ⟨mz_21, (List.forall_mem_cons.mpr ⟨mz_22, (fun _ h => absurd h List.not_mem_nil)⟩)⟩)⟩)⟩) (by decide +kernel)) (goodIn_sub hz_wsX12_feed (by decide +kernel))
theorem gT_X11_end : GoodIn lw_tbl (wsV RL 20 RX11 yX11_end wsX11_end) := goodIn_app (goodIn_sub (List.forall_mem_cons.mpr ⟨mz_24, (List.forall_mem_cons.mpr ⟨mz_25, (List.forall_mem_cons.mpr ⟨mz_26, (List.forall_mem_cons.mpr ⟨mz_14, (fun _ h => absurd h List.not_mem_nil)⟩)⟩)⟩)⟩) (by decide +kernel)) (goodIn_sub hz_wsX11_end (by decide +kernel))
theorem gT_X12_end : GoodIn lw_tbl (wsV RL 24 RX12 yX12_end wsX12_end) := goodIn_app (goodIn_sub (List.forall_mem_cons.mpr ⟨mz_31, (List.forall_mem_cons.mpr ⟨mz_32, (List.forall_mem_cons.mpr ⟨mz_33, (List.forall_mem_cons.mpr ⟨mz_22, (fun _ h => absurd h List.not_mem_nil)⟩)⟩)⟩)⟩) (by decide +kernel)) (goodIn_sub hz_wsX12_end (by decide +kernel))
theorem gT_X11_text : GoodIn lw_tbl (wsV RL 25 RX11 yX11_text wsX11_text) := goodIn_app (goodIn_sub (List.forall_mem_cons.mpr ⟨mz_275, (List.forall_mem_cons.mpr ⟨mz_276, (List.forall_mem_cons.mpr ⟨mz_277, (List.forall_mem_cons.mpr ⟨mz_14, (fun _ h => absurd h List.not_mem_nil)⟩)⟩)⟩)⟩) (by decide +kernel)) (goodIn_sub hz_wsX11_text (by decide +kernel))
theorem gT_X12_text : GoodIn lw_tbl (wsV RL 29 RX12 yX12_text wsX12_text) := goodIn_app (goodIn_sub (List.forall_mem_cons.mpr ⟨mz_380, (List.forall_mem_cons.mpr ⟨mz_381, (List.forall_mem_cons.mpr ⟨mz_382, (List.forall_mem_cons.mpr ⟨mz_22, (fun _ h => absurd h List.not_mem_nil)⟩)⟩)⟩)⟩) (by decide +kernel)) (goodIn_sub hz_wsX12_text (by decide +kernel))
theorem gT_X11_fault : GoodIn lw_tbl (wsV RL 30 RX11 yX11_fault wsX11_fault) := goodIn_app (goodIn_sub (List.forall_mem_cons.mpr ⟨mz_384, (List.forall_mem_cons.mpr ⟨mz_385, (List.forall_mem_cons.mpr ⟨mz_386, (List.forall_mem_cons.mpr ⟨mz_14, (fun _ h => absurd h List.not_mem_nil)⟩)⟩)⟩)⟩) (by decide +kernel)) (goodIn_sub hz_wsX11_fault (by decide +kernel))
theorem gT_X12_fault : GoodIn lw_tbl (wsV RL 33 RX12 yX12_fault wsX12_fault) := goodIn_app (goodIn_sub (List.forall_mem_cons.mpr ⟨mz_388, (List.forall_mem_cons.mpr ⟨mz_389, (List.forall_mem_cons.mpr ⟨mz_390, (List.forall_mem_cons.mpr ⟨mz_22, (fun _ h => absurd h List.not_mem_nil)⟩)⟩)⟩)⟩) (by decide +kernel)) (goodIn_sub hz_wsX12_fault (by decide +kernel))
theorem gT_X11_rule : GoodIn lw_tbl (wsV RL 34 RX11 yX11_rule wsX11_rule) := goodIn_app (goodIn_sub (List.forall_mem_cons.mpr ⟨mz_397, (List.forall_mem_cons.mpr ⟨mz_398, (List.forall_mem_cons.mpr ⟨mz_399, (List.forall_mem_cons.mpr ⟨mz_14, (fun _ h => absurd h List.not_mem_nil)⟩)⟩)⟩)⟩) (by decide +kernel)) (goodIn_sub hz_wsX11_rule (by decide +kernel))
theorem gT_X12_rule : GoodIn lw_tbl (wsV RL 37 RX12 yX12_rule wsX12_rule) := goodIn_app (goodIn_sub (List.forall_mem_cons.mpr ⟨mz_401, (List.forall_mem_cons.mpr ⟨mz_402, (List.forall_mem_cons.mpr ⟨mz_403, (List.forall_mem_cons.mpr ⟨mz_22, (fun _ h => absurd h List.not_mem_nil)⟩)⟩)⟩)⟩) (by decide +kernel)) (goodIn_sub hz_wsX12_rule (by decide +kernel))
theorem gT_X11_pot : GoodIn lw_tbl (wsV RL 38 RX11 yX11_pot wsX11_pot) := goodIn_app (goodIn_sub (List.forall_mem_cons.mpr ⟨mz_410, (List.forall_mem_cons.mpr ⟨mz_411, (List.forall_mem_cons.mpr ⟨mz_412, (List.forall_mem_cons.mpr ⟨mz_14, (fun _ h => absurd h List.not_mem_nil)⟩)⟩)⟩)⟩) (by decide +kernel)) (goodIn_sub hz_wsX11_pot (by decide +kernel))
theorem gT_X12_pot : GoodIn lw_tbl (wsV RL 41 RX12 yX12_pot wsX12_pot) := goodIn_app (goodIn_sub (List.forall_mem_cons.mpr ⟨mz_418, (List.forall_mem_cons.mpr ⟨mz_419, (List.forall_mem_cons.mpr ⟨mz_420, (List.forall_mem_cons.mpr ⟨mz_22, (fun _ h => absurd h List.not_mem_nil)⟩)⟩)⟩)⟩) (by decide +kernel)) (goodIn_sub hz_wsX12_pot (by decide +kernel))
theorem gT_X11_one : GoodIn lw_tbl (wsV RL 42 RX11 yX11_one wsX11_one) := goodIn_app (goodIn_sub (List.forall_mem_cons.mpr ⟨mz_426, (List.forall_mem_cons.mpr ⟨mz_427, (List.forall_mem_cons.mpr ⟨mz_428, (List.forall_mem_cons.mpr ⟨mz_14, (fun _ h => absurd h List.not_mem_nil)⟩)⟩)⟩)⟩) (by decide +kernel)) (goodIn_sub hz_wsX11_one (by decide +kernel))
theorem gT_X12_one : GoodIn lw_tbl (wsV RL 46 RX12 yX12_one wsX12_one) := goodIn_app (goodIn_sub (List.forall_mem_cons.mpr ⟨mz_430, (List.forall_mem_cons.mpr ⟨mz_431, (List.forall_mem_cons.mpr ⟨mz_432, (List.forall_mem_cons.mpr ⟨mz_22, (fun _ h => absurd h List.not_mem_nil)⟩)⟩)⟩)⟩) (by decide +kernel)) (goodIn_sub hz_wsX12_one (by decide +kernel))
theorem gT_X11_stir : GoodIn lw_tbl (wsV RL 47 RX11 yX11_stir wsX11_stir) := goodIn_app (goodIn_sub (List.forall_mem_cons.mpr ⟨mz_442, (List.forall_mem_cons.mpr ⟨mz_443, (List.forall_mem_cons.mpr ⟨mz_444, (List.forall_mem_cons.mpr ⟨mz_14, (fun _ h => absurd h List.not_mem_nil)⟩)⟩)⟩)⟩) (by decide +kernel)) (goodIn_sub hz_wsX11_stir (by decide +kernel))
theorem gT_X12_stir : GoodIn lw_tbl (wsV RL 50 RX12 yX12_stir wsX12_stir) := goodIn_app (goodIn_sub (List.forall_mem_cons.mpr ⟨mz_450, (List.forall_mem_cons.mpr ⟨mz_451, (List.forall_mem_cons.mpr ⟨mz_452, (List.forall_mem_cons.mpr ⟨mz_22, (fun _ h => absurd h List.not_mem_nil)⟩)⟩)⟩)⟩) (by decide +kernel)) (goodIn_sub hz_wsX12_stir (by decide +kernel))
theorem gT_X11_befriend : GoodIn lw_tbl (wsV RL 51 RX11 yX11_befriend wsX11_befriend) := goodIn_app (goodIn_sub (List.forall_mem_cons.mpr ⟨mz_456, (List.forall_mem_cons.mpr ⟨mz_457, (List.forall_mem_cons.mpr ⟨mz_458, (List.forall_mem_cons.mpr ⟨mz_14, (fun _ h => absurd h List.not_mem_nil)⟩)⟩)⟩)⟩) (by decide +kernel)) (goodIn_sub hz_wsX11_befriend (by decide +kernel))
theorem gT_X12_befriend : GoodIn lw_tbl (wsV RL 55 RX12 yX12_befriend wsX12_befriend) := goodIn_app (goodIn_sub (List.forall_mem_cons.mpr ⟨mz_460, (List.forall_mem_cons.mpr ⟨mz_461, (List.forall_mem_cons.mpr ⟨mz_462, (List.forall_mem_cons.mpr ⟨mz_22, (fun _ h => absurd h List.not_mem_nil)⟩)⟩)⟩)⟩) (by decide +kernel)) (goodIn_sub hz_wsX12_befriend (by decide +kernel))
theorem gT_X11_spoon : GoodIn lw_tbl (wsV RL 56 RX11 yX11_spoon wsX11_spoon) := goodIn_app (goodIn_sub (List.forall_mem_cons.mpr ⟨mz_464, (List.forall_mem_cons.mpr ⟨mz_465, (List.forall_mem_cons.mpr ⟨mz_466, (List.forall_mem_cons.mpr ⟨mz_14, (fun _ h => absurd h List.not_mem_nil)⟩)⟩)⟩)⟩) (by decide +kernel)) (goodIn_sub hz_wsX11_spoon (by decide +kernel))
theorem gT_X12_spoon : GoodIn lw_tbl (wsV RL 59 RX12 yX12_spoon wsX12_spoon) := goodIn_app (goodIn_sub (List.forall_mem_cons.mpr ⟨mz_469, (List.forall_mem_cons.mpr ⟨mz_470, (List.forall_mem_cons.mpr ⟨mz_471, (List.forall_mem_cons.mpr ⟨mz_22, (fun _ h => absurd h List.not_mem_nil)⟩)⟩)⟩)⟩) (by decide +kernel)) (goodIn_sub hz_wsX12_spoon (by decide +kernel))
theorem gT_X11_crown : GoodIn lw_tbl (wsV RL 60 RX11 yX11_crown wsX11_crown) := goodIn_app (goodIn_sub (List.forall_mem_cons.mpr ⟨mz_473, (List.forall_mem_cons.mpr ⟨mz_474, (List.forall_mem_cons.mpr ⟨mz_475, (List.forall_mem_cons.mpr ⟨mz_14, (fun _ h => absurd h List.not_mem_nil)⟩)⟩)⟩)⟩) (by decide +kernel)) (goodIn_sub hz_wsX11_crown (by decide +kernel))
theorem gT_X12_crown : GoodIn lw_tbl (wsV RL 63 RX12 yX12_crown wsX12_crown) := goodIn_app (goodIn_sub (List.forall_mem_cons.mpr ⟨mz_477, (List.forall_mem_cons.mpr ⟨mz_478, (List.forall_mem_cons.mpr ⟨mz_479, (List.forall_mem_cons.mpr ⟨mz_22, (fun _ h => absurd h List.not_mem_nil)⟩)⟩)⟩)⟩) (by decide +kernel)) (goodIn_sub hz_wsX12_crown (by decide +kernel))
theorem gT_X11_fill : GoodIn lw_tbl (wsV RL 64 RX11 yX11_fill wsX11_fill) := goodIn_app (goodIn_sub (List.forall_mem_cons.mpr ⟨mz_481, (List.forall_mem_cons.mpr ⟨mz_482, (List.forall_mem_cons.mpr ⟨mz_483, (List.forall_mem_cons.mpr ⟨mz_14, (fun _ h => absurd h List.not_mem_nil)⟩)⟩)⟩)⟩) (by decide +kernel)) (goodIn_sub hz_wsX11_fill (by decide +kernel))
theorem gT_X12_fill : GoodIn lw_tbl (wsV RL 67 RX12 yX12_fill wsX12_fill) := goodIn_app (goodIn_sub (List.forall_mem_cons.mpr ⟨mz_485, (List.forall_mem_cons.mpr ⟨mz_486, (List.forall_mem_cons.mpr ⟨mz_487, (List.forall_mem_cons.mpr ⟨mz_22, (fun _ h => absurd h List.not_mem_nil)⟩)⟩)⟩)⟩) (by decide +kernel)) (goodIn_sub hz_wsX12_fill (by decide +kernel))
theorem gT_X11_bowl : GoodIn lw_tbl (wsV RL 68 RX11 yX11_bowl wsX11_bowl) := goodIn_app (goodIn_sub (List.forall_mem_cons.mpr ⟨mz_521, (List.forall_mem_cons.mpr ⟨mz_522, (List.forall_mem_cons.mpr ⟨mz_523, (List.forall_mem_cons.mpr ⟨mz_14, (fun _ h => absurd h List.not_mem_nil)⟩)⟩)⟩)⟩) (by decide +kernel)) (goodIn_sub hz_wsX11_bowl (by decide +kernel))
theorem gT_X12_bowl : GoodIn lw_tbl (wsV RL 72 RX12 yX12_bowl wsX12_bowl) := goodIn_app (goodIn_sub (List.forall_mem_cons.mpr ⟨mz_537, (List.forall_mem_cons.mpr ⟨mz_538, (List.forall_mem_cons.mpr ⟨mz_539, (List.forall_mem_cons.mpr ⟨mz_22, (fun _ h => absurd h List.not_mem_nil)⟩)⟩)⟩)⟩) (by decide +kernel)) (goodIn_sub hz_wsX12_bowl (by decide +kernel))
theorem gT_X11_ladle : GoodIn lw_tbl (wsV RL 73 RX11 yX11_ladle wsX11_ladle) := goodIn_app (goodIn_sub (List.forall_mem_cons.mpr ⟨mz_542, (List.forall_mem_cons.mpr ⟨mz_543, (List.forall_mem_cons.mpr ⟨mz_544, (List.forall_mem_cons.mpr ⟨mz_14, (fun _ h => absurd h List.not_mem_nil)⟩)⟩)⟩)⟩) (by decide +kernel)) (goodIn_sub hz_wsX11_ladle (by decide +kernel))
theorem gT_X12_ladle : GoodIn lw_tbl (wsV RL 76 RX12 yX12_ladle wsX12_ladle) := goodIn_app (goodIn_sub (List.forall_mem_cons.mpr ⟨mz_546, (List.forall_mem_cons.mpr ⟨mz_547, (List.forall_mem_cons.mpr ⟨mz_548, (List.forall_mem_cons.mpr ⟨mz_22, (fun _ h => absurd h List.not_mem_nil)⟩)⟩)⟩)⟩) (by decide +kernel)) (goodIn_sub hz_wsX12_ladle (by decide +kernel))
theorem gT_X11_next : GoodIn lw_tbl (wsV RL 77 RX11 yX11_next wsX11_next) := goodIn_app (goodIn_sub (List.forall_mem_cons.mpr ⟨mz_554, (List.forall_mem_cons.mpr ⟨mz_555, (List.forall_mem_cons.mpr ⟨mz_556, (List.forall_mem_cons.mpr ⟨mz_14, (fun _ h => absurd h List.not_mem_nil)⟩)⟩)⟩)⟩) (by decide +kernel)) (goodIn_sub hz_wsX11_next (by decide +kernel))
theorem gT_X12_next : GoodIn lw_tbl (wsV RL 80 RX12 yX12_next wsX12_next) := goodIn_app (goodIn_sub (List.forall_mem_cons.mpr ⟨mz_562, (List.forall_mem_cons.mpr ⟨mz_563, (List.forall_mem_cons.mpr ⟨mz_564, (List.forall_mem_cons.mpr ⟨mz_22, (fun _ h => absurd h List.not_mem_nil)⟩)⟩)⟩)⟩) (by decide +kernel)) (goodIn_sub hz_wsX12_next (by decide +kernel))
theorem gT_X11_day : GoodIn lw_tbl (wsV RL 81 RX11 yX11_day wsX11_day) := goodIn_app (goodIn_sub (List.forall_mem_cons.mpr ⟨mz_580, (List.forall_mem_cons.mpr ⟨mz_581, (List.forall_mem_cons.mpr ⟨mz_582, (List.forall_mem_cons.mpr ⟨mz_14, (fun _ h => absurd h List.not_mem_nil)⟩)⟩)⟩)⟩) (by decide +kernel)) (goodIn_sub hz_wsX11_day (by decide +kernel))
theorem gT_X12_day : GoodIn lw_tbl (wsV RL 84 RX12 yX12_day wsX12_day) := goodIn_app (goodIn_sub (List.forall_mem_cons.mpr ⟨mz_589, (List.forall_mem_cons.mpr ⟨mz_590, (List.forall_mem_cons.mpr ⟨mz_591, (List.forall_mem_cons.mpr ⟨mz_22, (fun _ h => absurd h List.not_mem_nil)⟩)⟩)⟩)⟩) (by decide +kernel)) (goodIn_sub hz_wsX12_day (by decide +kernel))
theorem gT_X11_hungry : GoodIn lw_tbl (wsV RL 85 RX11 yX11_hungry wsX11_hungry) := goodIn_app (goodIn_sub (List.forall_mem_cons.mpr ⟨mz_593, (List.forall_mem_cons.mpr ⟨mz_594, (List.forall_mem_cons.mpr ⟨mz_595, (List.forall_mem_cons.mpr ⟨mz_14, (fun _ h => absurd h List.not_mem_nil)⟩)⟩)⟩)⟩) (by decide +kernel)) (goodIn_sub hz_wsX11_hungry (by decide +kernel))
theorem gT_X12_hungry : GoodIn lw_tbl (wsV RL 88 RX12 yX12_hungry wsX12_hungry) := goodIn_app (goodIn_sub (List.forall_mem_cons.mpr ⟨mz_597, (List.forall_mem_cons.mpr ⟨mz_598, (List.forall_mem_cons.mpr ⟨mz_599, (List.forall_mem_cons.mpr ⟨mz_22, (fun _ h => absurd h List.not_mem_nil)⟩)⟩)⟩)⟩) (by decide +kernel)) (goodIn_sub hz_wsX12_hungry (by decide +kernel))
theorem gT_X11_chance : GoodIn lw_tbl (wsV RL 89 RX11 yX11_chance wsX11_chance) := goodIn_app (goodIn_sub (List.forall_mem_cons.mpr ⟨mz_656, (List.forall_mem_cons.mpr ⟨mz_657, (List.forall_mem_cons.mpr ⟨mz_658, (List.forall_mem_cons.mpr ⟨mz_14, (fun _ h => absurd h List.not_mem_nil)⟩)⟩)⟩)⟩) (by decide +kernel)) (goodIn_sub hz_wsX11_chance (by decide +kernel))
theorem gT_X12_chance : GoodIn lw_tbl (wsV RL 93 RX12 yX12_chance wsX12_chance) := goodIn_app (goodIn_sub (List.forall_mem_cons.mpr ⟨mz_690, (List.forall_mem_cons.mpr ⟨mz_691, (List.forall_mem_cons.mpr ⟨mz_692, (List.forall_mem_cons.mpr ⟨mz_22, (fun _ h => absurd h List.not_mem_nil)⟩)⟩)⟩)⟩) (by decide +kernel)) (goodIn_sub hz_wsX12_chance (by decide +kernel))
theorem gT_X11_lasts : GoodIn lw_tbl (wsV RL 94 RX11 yX11_lasts wsX11_lasts) := goodIn_app (goodIn_sub (List.forall_mem_cons.mpr ⟨mz_698, (List.forall_mem_cons.mpr ⟨mz_699, (List.forall_mem_cons.mpr ⟨mz_700, (List.forall_mem_cons.mpr ⟨mz_14, (fun _ h => absurd h List.not_mem_nil)⟩)⟩)⟩)⟩) (by decide +kernel)) (goodIn_sub hz_wsX11_lasts (by decide +kernel))
theorem gT_X12_lasts : GoodIn lw_tbl (wsV RL 98 RX12 yX12_lasts wsX12_lasts) := goodIn_app (goodIn_sub (List.forall_mem_cons.mpr ⟨mz_702, (List.forall_mem_cons.mpr ⟨mz_703, (List.forall_mem_cons.mpr ⟨mz_704, (List.forall_mem_cons.mpr ⟨mz_22, (fun _ h => absurd h List.not_mem_nil)⟩)⟩)⟩)⟩) (by decide +kernel)) (goodIn_sub hz_wsX12_lasts (by decide +kernel))
theorem gT_X11_reign : GoodIn lw_tbl (wsV RL 99 RX11 yX11_reign wsX11_reign) := goodIn_app (goodIn_sub (List.forall_mem_cons.mpr ⟨mz_759, (List.forall_mem_cons.mpr ⟨mz_760, (List.forall_mem_cons.mpr ⟨mz_761, (List.forall_mem_cons.mpr ⟨mz_14, (fun _ h => absurd h List.not_mem_nil)⟩)⟩)⟩)⟩) (by decide +kernel)) (goodIn_sub hz_wsX11_reign (by decide +kernel))
theorem gT_X12_reign : GoodIn lw_tbl (wsV RL 102 RX12 yX12_reign wsX12_reign) := goodIn_app (goodIn_sub (List.forall_mem_cons.mpr ⟨mz_777, (List.forall_mem_cons.mpr ⟨mz_778, (List.forall_mem_cons.mpr ⟨mz_779, (List.forall_mem_cons.mpr ⟨mz_22, (fun _ h => absurd h List.not_mem_nil)⟩)⟩)⟩)⟩) (by decide +kernel)) (goodIn_sub hz_wsX12_reign (by decide +kernel))
theorem gT_X11_raise : GoodIn lw_tbl (wsV RL 103 RX11 yX11_raise wsX11_raise) := goodIn_app (goodIn_sub (List.forall_mem_cons.mpr ⟨mz_785, (List.forall_mem_cons.mpr ⟨mz_786, (List.forall_mem_cons.mpr ⟨mz_787, (List.forall_mem_cons.mpr ⟨mz_14, (fun _ h => absurd h List.not_mem_nil)⟩)⟩)⟩)⟩) (by decide +kernel)) (goodIn_sub hz_wsX11_raise (by decide +kernel))
theorem gT_X12_raise : GoodIn lw_tbl (wsV RL 106 RX12 yX12_raise wsX12_raise) := goodIn_app (goodIn_sub (List.forall_mem_cons.mpr ⟨mz_795, (List.forall_mem_cons.mpr ⟨mz_796, (List.forall_mem_cons.mpr ⟨mz_797, (List.forall_mem_cons.mpr ⟨mz_22, (fun _ h => absurd h List.not_mem_nil)⟩)⟩)⟩)⟩) (by decide +kernel)) (goodIn_sub hz_wsX12_raise (by decide +kernel))
theorem gT_X11_coup : GoodIn lw_tbl (wsV RL 107 RX11 yX11_coup wsX11_coup) := goodIn_app (goodIn_sub (List.forall_mem_cons.mpr ⟨mz_828, (List.forall_mem_cons.mpr ⟨mz_829, (List.forall_mem_cons.mpr ⟨mz_830, (List.forall_mem_cons.mpr ⟨mz_14, (fun _ h => absurd h List.not_mem_nil)⟩)⟩)⟩)⟩) (by decide +kernel)) (goodIn_sub hz_wsX11_coup (by decide +kernel))
theorem gT_X12_coup : GoodIn lw_tbl (wsV RL 110 RX12 yX12_coup wsX12_coup) := goodIn_app (goodIn_sub (List.forall_mem_cons.mpr ⟨mz_850, (List.forall_mem_cons.mpr ⟨mz_851, (List.forall_mem_cons.mpr ⟨mz_852, (List.forall_mem_cons.mpr ⟨mz_22, (fun _ h => absurd h List.not_mem_nil)⟩)⟩)⟩)⟩) (by decide +kernel)) (goodIn_sub hz_wsX12_coup (by decide +kernel))
theorem gT_X11_firm : GoodIn lw_tbl (wsV RL 111 RX11 yX11_firm wsX11_firm) := goodIn_app (goodIn_sub (List.forall_mem_cons.mpr ⟨mz_854, (List.forall_mem_cons.mpr ⟨mz_855, (List.forall_mem_cons.mpr ⟨mz_856, (List.forall_mem_cons.mpr ⟨mz_14, (fun _ h => absurd h List.not_mem_nil)⟩)⟩)⟩)⟩) (by decide +kernel)) (goodIn_sub hz_wsX11_firm (by decide +kernel))
theorem gT_X12_firm : GoodIn lw_tbl (wsV RL 114 RX12 yX12_firm wsX12_firm) := goodIn_app (goodIn_sub (List.forall_mem_cons.mpr ⟨mz_858, (List.forall_mem_cons.mpr ⟨mz_859, (List.forall_mem_cons.mpr ⟨mz_860, (List.forall_mem_cons.mpr ⟨mz_22, (fun _ h => absurd h List.not_mem_nil)⟩)⟩)⟩)⟩) (by decide +kernel)) (goodIn_sub hz_wsX12_firm (by decide +kernel))
theorem gT_X11_see : GoodIn lw_tbl (wsV RL 115 RX11 yX11_see wsX11_see) := goodIn_app (goodIn_sub (List.forall_mem_cons.mpr ⟨mz_864, (List.forall_mem_cons.mpr ⟨mz_865, (List.forall_mem_cons.mpr ⟨mz_866, (List.forall_mem_cons.mpr ⟨mz_14, (fun _ h => absurd h List.not_mem_nil)⟩)⟩)⟩)⟩) (by decide +kernel)) (goodIn_sub hz_wsX11_see (by decide +kernel))
theorem gT_X12_see : GoodIn lw_tbl (wsV RL 118 RX12 yX12_see wsX12_see) := goodIn_app (goodIn_sub (List.forall_mem_cons.mpr ⟨mz_868, (List.forall_mem_cons.mpr ⟨mz_869, (List.forall_mem_cons.mpr ⟨mz_870, (List.forall_mem_cons.mpr ⟨mz_22, (fun _ h => absurd h List.not_mem_nil)⟩)⟩)⟩)⟩) (by decide +kernel)) (goodIn_sub hz_wsX12_see (by decide +kernel))
theorem gT_X11_forget : GoodIn lw_tbl (wsV RL 119 RX11 yX11_forget wsX11_forget) := goodIn_app (goodIn_sub (List.forall_mem_cons.mpr ⟨mz_872, (List.forall_mem_cons.mpr ⟨mz_873, (List.forall_mem_cons.mpr ⟨mz_874, (List.forall_mem_cons.mpr ⟨mz_14, (fun _ h => absurd h List.not_mem_nil)⟩)⟩)⟩)⟩) (by decide +kernel)) (goodIn_sub hz_wsX11_forget (by decide +kernel))
theorem gT_X12_forget : GoodIn lw_tbl (wsV RL 122 RX12 yX12_forget wsX12_forget) := goodIn_app (goodIn_sub (List.forall_mem_cons.mpr ⟨mz_876, (List.forall_mem_cons.mpr ⟨mz_877, (List.forall_mem_cons.mpr ⟨mz_878, (List.forall_mem_cons.mpr ⟨mz_22, (fun _ h => absurd h List.not_mem_nil)⟩)⟩)⟩)⟩) (by decide +kernel)) (goodIn_sub hz_wsX12_forget (by decide +kernel))
theorem gT_X11_histories : GoodIn lw_tbl (wsV RL 123 RX11 yX11_histories wsX11_histories) := goodIn_app (goodIn_sub (List.forall_mem_cons.mpr ⟨mz_918, (List.forall_mem_cons.mpr ⟨mz_919, (List.forall_mem_cons.mpr ⟨mz_920, (List.forall_mem_cons.mpr ⟨mz_14, (fun _ h => absurd h List.not_mem_nil)⟩)⟩)⟩)⟩) (by decide +kernel)) (goodIn_sub hz_wsX11_histories (by decide +kernel))
theorem gT_X12_histories : GoodIn lw_tbl (wsV RL 126 RX12 yX12_histories wsX12_histories) := goodIn_app (goodIn_sub (List.forall_mem_cons.mpr ⟨mz_932, (List.forall_mem_cons.mpr ⟨mz_933, (List.forall_mem_cons.mpr ⟨mz_934, (List.forall_mem_cons.mpr ⟨mz_22, (fun _ h => absurd h List.not_mem_nil)⟩)⟩)⟩)⟩) (by decide +kernel)) (goodIn_sub hz_wsX12_histories (by decide +kernel))
theorem gT_X11_could : GoodIn lw_tbl (wsV RL 127 RX11 yX11_could wsX11_could) := goodIn_app (goodIn_sub (List.forall_mem_cons.mpr ⟨mz_937, (List.forall_mem_cons.mpr ⟨mz_938, (List.forall_mem_cons.mpr ⟨mz_939, (List.forall_mem_cons.mpr ⟨mz_14, (fun _ h => absurd h List.not_mem_nil)⟩)⟩)⟩)⟩) (by decide +kernel)) (goodIn_sub hz_wsX11_could (by decide +kernel))
theorem gT_X12_could : GoodIn lw_tbl (wsV RL 130 RX12 yX12_could wsX12_could) := goodIn_app (goodIn_sub (List.forall_mem_cons.mpr ⟨mz_943, (List.forall_mem_cons.mpr ⟨mz_944, (List.forall_mem_cons.mpr ⟨mz_945, (List.forall_mem_cons.mpr ⟨mz_22, (fun _ h => absurd h List.not_mem_nil)⟩)⟩)⟩)⟩) (by decide +kernel)) (goodIn_sub hz_wsX12_could (by decide +kernel))
theorem gT_X11_blind : GoodIn lw_tbl (wsV RL 131 RX11 yX11_blind wsX11_blind) := goodIn_app (goodIn_sub (List.forall_mem_cons.mpr ⟨mz_952, (List.forall_mem_cons.mpr ⟨mz_953, (List.forall_mem_cons.mpr ⟨mz_954, (List.forall_mem_cons.mpr ⟨mz_14, (fun _ h => absurd h List.not_mem_nil)⟩)⟩)⟩)⟩) (by decide +kernel)) (goodIn_sub hz_wsX11_blind (by decide +kernel))
theorem gT_X12_blind : GoodIn lw_tbl (wsV RL 134 RX12 yX12_blind wsX12_blind) := goodIn_app (goodIn_sub (List.forall_mem_cons.mpr ⟨mz_957, (List.forall_mem_cons.mpr ⟨mz_958, (List.forall_mem_cons.mpr ⟨mz_959, (List.forall_mem_cons.mpr ⟨mz_22, (fun _ h => absurd h List.not_mem_nil)⟩)⟩)⟩)⟩) (by decide +kernel)) (goodIn_sub hz_wsX12_blind (by decide +kernel))
theorem gT_X11_fair : GoodIn lw_tbl (wsV RL 135 RX11 yX11_fair wsX11_fair) := goodIn_app (goodIn_sub (List.forall_mem_cons.mpr ⟨mz_1010, (List.forall_mem_cons.mpr ⟨mz_1011, (List.forall_mem_cons.mpr ⟨mz_1012, (List.forall_mem_cons.mpr ⟨mz_14, (fun _ h => absurd h List.not_mem_nil)⟩)⟩)⟩)⟩) (by decide +kernel)) (goodIn_sub hz_wsX11_fair (by decide +kernel))
theorem gT_X12_fair : GoodIn lw_tbl (wsV RL 138 RX12 yX12_fair wsX12_fair) := goodIn_app (goodIn_sub (List.forall_mem_cons.mpr ⟨mz_1024, (List.forall_mem_cons.mpr ⟨mz_1025, (List.forall_mem_cons.mpr ⟨mz_1026, (List.forall_mem_cons.mpr ⟨mz_22, (fun _ h => absurd h List.not_mem_nil)⟩)⟩)⟩)⟩) (by decide +kernel)) (goodIn_sub hz_wsX12_fair (by decide +kernel))
theorem gT_X11_keep : GoodIn lw_tbl (wsV RL 139 RX11 yX11_keep wsX11_keep) := goodIn_app (goodIn_sub (List.forall_mem_cons.mpr ⟨mz_1032, (List.forall_mem_cons.mpr ⟨mz_1033, (List.forall_mem_cons.mpr ⟨mz_1034, (List.forall_mem_cons.mpr ⟨mz_14, (fun _ h => absurd h List.not_mem_nil)⟩)⟩)⟩)⟩) (by decide +kernel)) (goodIn_sub hz_wsX11_keep (by decide +kernel))
theorem gT_X12_keep : GoodIn lw_tbl (wsV RL 142 RX12 yX12_keep wsX12_keep) := goodIn_app (goodIn_sub (List.forall_mem_cons.mpr ⟨mz_1036, (List.forall_mem_cons.mpr ⟨mz_1037, (List.forall_mem_cons.mpr ⟨mz_1038, (List.forall_mem_cons.mpr ⟨mz_22, (fun _ h => absurd h List.not_mem_nil)⟩)⟩)⟩)⟩) (by decide +kernel)) (goodIn_sub hz_wsX12_keep (by decide +kernel))
theorem gT_X11_back : GoodIn lw_tbl (wsV RL 143 RX11 yX11_back wsX11_back) := goodIn_app (goodIn_sub (List.forall_mem_cons.mpr ⟨mz_1040, (List.forall_mem_cons.mpr ⟨mz_1041, (List.forall_mem_cons.mpr ⟨mz_1042, (List.forall_mem_cons.mpr ⟨mz_14, (fun _ h => absurd h List.not_mem_nil)⟩)⟩)⟩)⟩) (by decide +kernel)) (goodIn_sub hz_wsX11_back (by decide +kernel))
theorem gT_X12_back : GoodIn lw_tbl (wsV RL 146 RX12 yX12_back wsX12_back) := goodIn_app (goodIn_sub (List.forall_mem_cons.mpr ⟨mz_1044, (List.forall_mem_cons.mpr ⟨mz_1045, (List.forall_mem_cons.mpr ⟨mz_1046, (List.forall_mem_cons.mpr ⟨mz_22, (fun _ h => absurd h List.not_mem_nil)⟩)⟩)⟩)⟩) (by decide +kernel)) (goodIn_sub hz_wsX12_back (by decide +kernel))
theorem gT_X11_sheet : GoodIn lw_tbl (wsV RL 147 RX11 yX11_sheet wsX11_sheet) := goodIn_app (goodIn_sub (List.forall_mem_cons.mpr ⟨mz_1064, (List.forall_mem_cons.mpr ⟨mz_1065, (List.forall_mem_cons.mpr ⟨mz_1066, (List.forall_mem_cons.mpr ⟨mz_14, (fun _ h => absurd h List.not_mem_nil)⟩)⟩)⟩)⟩) (by decide +kernel)) (goodIn_sub hz_wsX11_sheet (by decide +kernel))
theorem gT_X12_sheet : GoodIn lw_tbl (wsV RL 150 RX12 yX12_sheet wsX12_sheet) := goodIn_app (goodIn_sub (List.forall_mem_cons.mpr ⟨mz_1076, (List.forall_mem_cons.mpr ⟨mz_1077, (List.forall_mem_cons.mpr ⟨mz_1078, (List.forall_mem_cons.mpr ⟨mz_22, (fun _ h => absurd h List.not_mem_nil)⟩)⟩)⟩)⟩) (by decide +kernel)) (goodIn_sub hz_wsX12_sheet (by decide +kernel))
theorem gT_X11_lay : GoodIn lw_tbl (wsV RL 151 RX11 yX11_lay wsX11_lay) := goodIn_app (goodIn_sub (List.forall_mem_cons.mpr ⟨mz_1093, (List.forall_mem_cons.mpr ⟨mz_1094, (List.forall_mem_cons.mpr ⟨mz_1095, (List.forall_mem_cons.mpr ⟨mz_14, (fun _ h => absurd h List.not_mem_nil)⟩)⟩)⟩)⟩) (by decide +kernel)) (goodIn_sub hz_wsX11_lay (by decide +kernel))
theorem gT_X12_lay : GoodIn lw_tbl (wsV RL 154 RX12 yX12_lay wsX12_lay) := goodIn_app (goodIn_sub (List.forall_mem_cons.mpr ⟨mz_1097, (List.forall_mem_cons.mpr ⟨mz_1098, (List.forall_mem_cons.mpr ⟨mz_1099, (List.forall_mem_cons.mpr ⟨mz_22, (fun _ h => absurd h List.not_mem_nil)⟩)⟩)⟩)⟩) (by decide +kernel)) (goodIn_sub hz_wsX12_lay (by decide +kernel))
theorem gT_X11_read : GoodIn lw_tbl (wsV RL 155 RX11 yX11_read wsX11_read) := goodIn_app (goodIn_sub (List.forall_mem_cons.mpr ⟨mz_1107, (List.forall_mem_cons.mpr ⟨mz_1108, (List.forall_mem_cons.mpr ⟨mz_1109, (List.forall_mem_cons.mpr ⟨mz_14, (fun _ h => absurd h List.not_mem_nil)⟩)⟩)⟩)⟩) (by decide +kernel)) (goodIn_sub hz_wsX11_read (by decide +kernel))
theorem gT_X12_read : GoodIn lw_tbl (wsV RL 159 RX12 yX12_read wsX12_read) := goodIn_app (goodIn_sub (List.forall_mem_cons.mpr ⟨mz_1114, (List.forall_mem_cons.mpr ⟨mz_1115, (List.forall_mem_cons.mpr ⟨mz_1116, (List.forall_mem_cons.mpr ⟨mz_22, (fun _ h => absurd h List.not_mem_nil)⟩)⟩)⟩)⟩) (by decide +kernel)) (goodIn_sub hz_wsX12_read (by decide +kernel))
theorem gT_X11_torn : GoodIn lw_tbl (wsV RL 160 RX11 yX11_torn wsX11_torn) := goodIn_app (goodIn_sub (List.forall_mem_cons.mpr ⟨mz_1118, (List.forall_mem_cons.mpr ⟨mz_1119, (List.forall_mem_cons.mpr ⟨mz_1120, (List.forall_mem_cons.mpr ⟨mz_14, (fun _ h => absurd h List.not_mem_nil)⟩)⟩)⟩)⟩) (by decide +kernel)) (goodIn_sub hz_wsX11_torn (by decide +kernel))
theorem gT_X12_torn : GoodIn lw_tbl (wsV RL 163 RX12 yX12_torn wsX12_torn) := goodIn_app (goodIn_sub (List.forall_mem_cons.mpr ⟨mz_1122, (List.forall_mem_cons.mpr ⟨mz_1123, (List.forall_mem_cons.mpr ⟨mz_1124, (List.forall_mem_cons.mpr ⟨mz_22, (fun _ h => absurd h List.not_mem_nil)⟩)⟩)⟩)⟩) (by decide +kernel)) (goodIn_sub hz_wsX12_torn (by decide +kernel))
theorem gT_X11_count : GoodIn lw_tbl (wsV RL 164 RX11 yX11_count wsX11_count) := goodIn_app (goodIn_sub (List.forall_mem_cons.mpr ⟨mz_1132, (List.forall_mem_cons.mpr ⟨mz_1133, (List.forall_mem_cons.mpr ⟨mz_1134, (List.forall_mem_cons.mpr ⟨mz_14, (fun _ h => absurd h List.not_mem_nil)⟩)⟩)⟩)⟩) (by decide +kernel)) (goodIn_sub hz_wsX11_count (by decide +kernel))
theorem gT_X12_count : GoodIn lw_tbl (wsV RL 167 RX12 yX12_count wsX12_count) := goodIn_app (goodIn_sub (List.forall_mem_cons.mpr ⟨mz_1136, (List.forall_mem_cons.mpr ⟨mz_1137, (List.forall_mem_cons.mpr ⟨mz_1138, (List.forall_mem_cons.mpr ⟨mz_22, (fun _ h => absurd h List.not_mem_nil)⟩)⟩)⟩)⟩) (by decide +kernel)) (goodIn_sub hz_wsX12_count (by decide +kernel))
theorem gT_X11_init : GoodIn lw_tbl wsX11_init := goodIn_sub hz_wsX11_init (by decide +kernel)
theorem gT_X12_init : GoodIn lw_tbl wsX12_init := goodIn_sub hz_wsX12_init (by decide +kernel)
