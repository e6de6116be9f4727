def GW (w : Cond) : Prop := w ∈ lw_tbl ∧ ((w.onTables && w.keeps) = true ∨ ∃ ty, w = .arrayClass ty)
theorem gi_nil : GoodIn lw_tbl [] := fun _ h => absurd h List.not_mem_nil
theorem gi_cons {w : Cond} {ws : List Cond} (h : GW w) (t : GoodIn lw_tbl ws) : GoodIn lw_tbl (w :: ws) := List.forall_mem_cons.mpr ⟨h, t⟩
set_option maxRecDepth 20000 in
theorem gu_X0 : GoodIn lw_tbl (u_ws RX0 TX0 7) := goodIn_sub inX0 (by decide +kernel)
set_option maxRecDepth 20000 in
theorem gu_X2 : GoodIn lw_tbl (u_ws RX2 TX2 5) := goodIn_sub inX2 (by decide +kernel)
set_option maxRecDepth 20000 in
theorem gu_X3 : GoodIn lw_tbl (u_ws RX3 TX3 3) := goodIn_sub inX3 (by decide +kernel)
set_option maxRecDepth 20000 in
theorem gu_X4 : GoodIn lw_tbl (u_ws RX4 TX4 4) := goodIn_sub inX4 (by decide +kernel)
set_option maxRecDepth 20000 in
theorem gu_X5 : GoodIn lw_tbl (u_ws RX5 TX5 3) := goodIn_sub inX5 (by decide +kernel)
set_option maxRecDepth 20000 in
theorem gu_X6 : GoodIn lw_tbl (u_ws RX6 TX6 3) := goodIn_sub inX6 (by decide +kernel)
set_option maxRecDepth 20000 in
theorem gu_X7 : GoodIn lw_tbl (u_ws RX7 TX7 7) := goodIn_sub inX7 (by decide +kernel)
set_option maxRecDepth 20000 in
theorem gu_X8 : GoodIn lw_tbl (u_ws RX8 TX8 2) := goodIn_sub inX8 (by decide +kernel)
set_option maxRecDepth 20000 in
theorem gu_X9 : GoodIn lw_tbl (u_ws RX9 TX9 11) := goodIn_sub inX9 (by decide +kernel)
set_option maxRecDepth 20000 in
theorem gu_X10 : GoodIn lw_tbl (u_ws RX10 TX10 30) := goodIn_sub inX10 (by decide +kernel)
theorem wd_0 : GW (.code yX9_init cX9_init 2 none) := ⟨in_wsL_law_r1 _ (List.mem_of_getElem? (i := 8) rfl), good_of_word (by decide +kernel)⟩
theorem wd_1 : GW (.methodLink RX2 3 objectInit) := ⟨in_wsL_law_r2 _ (List.mem_of_getElem? (i := 8) rfl), good_of_word (by decide +kernel)⟩
theorem wd_2 : GW (.code yX2_init cX2_init 1 none) := ⟨in_wsL_law_r2 _ (List.mem_of_getElem? (i := 7) rfl), good_of_word (by decide +kernel)⟩
theorem wd_3 : GW (.instanceMethod yX2_init) := ⟨in_wsL_law_r2 _ (List.mem_of_getElem? (i := 6) rfl), good_of_word (by decide +kernel)⟩
theorem wd_4 : GW (.initialized RX6) := ⟨in_wsL_law_r2 _ (List.mem_of_getElem? (i := 5) rfl), good_of_word (by decide +kernel)⟩
theorem wd_5 : GW (.instantiable RX6 3) := ⟨in_wsL_law_r2 _ (List.mem_of_getElem? (i := 4) rfl), good_of_word (by decide +kernel)⟩
theorem wd_6 : GW (.fieldLink RX9 38 "ParquetLayer" "covering" "LParquetLayer$Covering;") := ⟨in_wsL_law_r2 _ (List.mem_of_getElem? (i := 3) rfl), good_of_word (by decide +kernel)⟩
theorem wd_7 : GW (.initialized RX0) := ⟨in_wsL_law_r2 _ (List.mem_of_getElem? (i := 2) rfl), good_of_word (by decide +kernel)⟩
theorem wd_8 : GW (.instantiable RX0 7) := ⟨in_wsL_law_r2 _ (List.mem_of_getElem? (i := 1) rfl), good_of_word (by decide +kernel)⟩
theorem wd_9 : GW (.classLink RX9 35 RX0) := ⟨in_wsL_law_r2 _ (List.mem_of_getElem? (i := 0) rfl), good_of_word (by decide +kernel)⟩
theorem wd_10 : GW (.fieldLink RX9 31 "ParquetLayer" "turner" "LParquetLayer$Turner;") := ⟨in_wsL_law_r1 _ (List.mem_of_getElem? (i := 23) rfl), good_of_word (by decide +kernel)⟩
theorem wd_11 : GW (.initialized RX8) := ⟨in_wsL_law_r1 _ (List.mem_of_getElem? (i := 22) rfl), good_of_word (by decide +kernel)⟩
theorem wd_12 : GW (.instantiable RX8 2) := ⟨in_wsL_law_r1 _ (List.mem_of_getElem? (i := 21) rfl), good_of_word (by decide +kernel)⟩
theorem wd_13 : GW (.classLink RX9 28 RX8) := ⟨in_wsL_law_r1 _ (List.mem_of_getElem? (i := 20) rfl), good_of_word (by decide +kernel)⟩
theorem wd_14 : GW (.fieldLink RX9 24 "ParquetLayer" "heights" "LParquetLayer$Heights;") := ⟨in_wsL_law_r1 _ (List.mem_of_getElem? (i := 19) rfl), good_of_word (by decide +kernel)⟩
theorem wd_15 : GW (.initialized RX2) := ⟨in_wsL_law_r1 _ (List.mem_of_getElem? (i := 18) rfl), good_of_word (by decide +kernel)⟩
theorem wd_16 : GW (.instantiable RX2 5) := ⟨in_wsL_law_r1 _ (List.mem_of_getElem? (i := 17) rfl), good_of_word (by decide +kernel)⟩
theorem wd_17 : GW (.classLink RX9 21 RX2) := ⟨in_wsL_law_r1 _ (List.mem_of_getElem? (i := 16) rfl), good_of_word (by decide +kernel)⟩
theorem wd_18 : GW (.fieldLink RX9 17 "ParquetLayer" "pasts" "[LParquetLayer$Past;") := ⟨in_wsL_law_r1 _ (List.mem_of_getElem? (i := 15) rfl), good_of_word (by decide +kernel)⟩
theorem wd_19 : GW (.classLink RX9 15 RX5) := ⟨in_wsL_law_r1 _ (List.mem_of_getElem? (i := 14) rfl), good_of_word (by decide +kernel)⟩
theorem wd_20 : GW (.fieldLink RX9 9 "ParquetLayer" "sheets" "[LParquetLayer$Sheet;") := ⟨in_wsL_law_r1 _ (List.mem_of_getElem? (i := 13) rfl), good_of_word (by decide +kernel)⟩
theorem wd_21 : GW (.classLink RX9 7 RX6) := ⟨in_wsL_law_r1 _ (List.mem_of_getElem? (i := 12) rfl), good_of_word (by decide +kernel)⟩
theorem wd_22 : GW (.code objectInit ⟨#[0xb1]⟩ 1 none) := ⟨in_wsL_law_r1 _ (List.mem_of_getElem? (i := 11) rfl), good_of_word (by decide +kernel)⟩
theorem wd_23 : GW (.instanceMethod objectInit) := ⟨in_wsL_law_r1 _ (List.mem_of_getElem? (i := 10) rfl), good_of_word (by decide +kernel)⟩
theorem wd_24 : GW (.methodLink RX9 1 objectInit) := ⟨in_wsL_law_r1 _ (List.mem_of_getElem? (i := 9) rfl), good_of_word (by decide +kernel)⟩
set_option maxRecDepth 20000 in
theorem gr_wsX9_init_r1 : GoodIn lw_tbl wsX9_init_r1 := gi_cons wd_24 (gi_cons wd_23 (gi_cons wd_22 (gi_cons wd_21 (gi_cons wd_20 (gi_cons wd_19 (gi_cons wd_18 (gi_cons wd_17 (gi_cons wd_16 (gi_cons wd_15 (gi_cons wd_14 (gi_cons wd_13 (gi_cons wd_12 (gi_cons wd_11 (gi_cons wd_10 (gi_cons wd_9 (gi_cons wd_8 (gi_cons wd_7 (gi_cons wd_6 (gi_cons wd_5 (gi_cons wd_4 (gi_cons wd_3 (gi_cons wd_2 (gi_cons wd_1 (gi_nil))))))))))))))))))))))))
theorem wd_25 : GW (.fieldLink RX6 9 "ParquetLayer$Sheet" "numbers" "[I") := ⟨in_wsL_law_r3 _ (List.mem_of_getElem? (i := 2) rfl), good_of_word (by decide +kernel)⟩
theorem wd_26 : GW (.methodLink RX6 1 objectInit) := ⟨in_wsL_law_r3 _ (List.mem_of_getElem? (i := 1) rfl), good_of_word (by decide +kernel)⟩
theorem wd_27 : GW (.code yX6_init cX6_init 1 none) := ⟨in_wsL_law_r3 _ (List.mem_of_getElem? (i := 0) rfl), good_of_word (by decide +kernel)⟩
theorem wd_28 : GW (.instanceMethod yX6_init) := ⟨in_wsL_law_r2 _ (List.mem_of_getElem? (i := 23) rfl), good_of_word (by decide +kernel)⟩
theorem wd_29 : GW (.fieldLink RX0 16 "ParquetLayer$Covering" "queue" "[I") := ⟨in_wsL_law_r2 _ (List.mem_of_getElem? (i := 22) rfl), good_of_word (by decide +kernel)⟩
theorem wd_30 : GW (.fieldLink RX0 13 "ParquetLayer$Covering" "reachedFrom" "[I") := ⟨in_wsL_law_r2 _ (List.mem_of_getElem? (i := 21) rfl), good_of_word (by decide +kernel)⟩
theorem wd_31 : GW (.fieldLink RX0 7 "ParquetLayer$Covering" "mate" "[I") := ⟨in_wsL_law_r2 _ (List.mem_of_getElem? (i := 20) rfl), good_of_word (by decide +kernel)⟩
theorem wd_32 : GW (.methodLink RX0 1 objectInit) := ⟨in_wsL_law_r2 _ (List.mem_of_getElem? (i := 19) rfl), good_of_word (by decide +kernel)⟩
theorem wd_33 : GW (.code yX0_init cX0_init 1 none) := ⟨in_wsL_law_r2 _ (List.mem_of_getElem? (i := 18) rfl), good_of_word (by decide +kernel)⟩
theorem wd_34 : GW (.instanceMethod yX0_init) := ⟨in_wsL_law_r2 _ (List.mem_of_getElem? (i := 17) rfl), good_of_word (by decide +kernel)⟩
theorem wd_35 : GW (.methodLink RX8 1 objectInit) := ⟨in_wsL_law_r2 _ (List.mem_of_getElem? (i := 16) rfl), good_of_word (by decide +kernel)⟩
theorem wd_36 : GW (.code yX8_init cX8_init 1 none) := ⟨in_wsL_law_r2 _ (List.mem_of_getElem? (i := 15) rfl), good_of_word (by decide +kernel)⟩
theorem wd_37 : GW (.instanceMethod yX8_init) := ⟨in_wsL_law_r2 _ (List.mem_of_getElem? (i := 14) rfl), good_of_word (by decide +kernel)⟩
theorem wd_38 : GW (.fieldLink RX2 19 "ParquetLayer$Heights" "target" "[I") := ⟨in_wsL_law_r2 _ (List.mem_of_getElem? (i := 13) rfl), good_of_word (by decide +kernel)⟩
theorem wd_39 : GW (.fieldLink RX2 16 "ParquetLayer$Heights" "queue" "[I") := ⟨in_wsL_law_r2 _ (List.mem_of_getElem? (i := 12) rfl), good_of_word (by decide +kernel)⟩
theorem wd_40 : GW (.fieldLink RX2 13 "ParquetLayer$Heights" "there" "[I") := ⟨in_wsL_law_r2 _ (List.mem_of_getElem? (i := 11) rfl), good_of_word (by decide +kernel)⟩
theorem wd_41 : GW (.fieldLink RX2 9 "ParquetLayer$Heights" "here" "[I") := ⟨in_wsL_law_r2 _ (List.mem_of_getElem? (i := 10) rfl), good_of_word (by decide +kernel)⟩
theorem wd_42 : GW (.arrayClass .int) := ⟨in_wsL_law_r2 _ (List.mem_of_getElem? (i := 9) rfl), good_of_word (by decide +kernel)⟩
set_option maxRecDepth 20000 in
theorem gr_wsX9_init_r2 : GoodIn lw_tbl wsX9_init_r2 := gi_cons wd_42 (gi_cons wd_41 (gi_cons wd_40 (gi_cons wd_39 (gi_cons wd_38 (gi_cons wd_37 (gi_cons wd_36 (gi_cons wd_35 (gi_cons wd_34 (gi_cons wd_33 (gi_cons wd_32 (gi_cons wd_31 (gi_cons wd_30 (gi_cons wd_29 (gi_cons wd_28 (gi_cons wd_27 (gi_cons wd_26 (gi_cons wd_25 (gi_nil))))))))))))))))))
set_option maxRecDepth 20000 in
theorem gr_wsX9_init : GoodIn lw_tbl wsX9_init := gi_cons wd_0 (goodIn_app (goodIn_app (goodIn_app (goodIn_app (goodIn_app (goodIn_app (gr_wsX9_init_r1) (gr_wsX9_init_r2)) (gu_X9)) (gu_X2)) (gu_X8)) (gu_X0)) (gu_X6))
theorem wd_43 : GW (.code yX10_init cX10_init 1 none) := ⟨in_wsL_law_r3 _ (List.mem_of_getElem? (i := 5) rfl), good_of_word (by decide +kernel)⟩
theorem wd_44 : GW (.fieldLink RX10 63 "ParquetLayerModel" "carried" "[I") := ⟨in_wsL_law_r4 _ (List.mem_of_getElem? (i := 2) rfl), good_of_word (by decide +kernel)⟩
theorem wd_45 : GW (.fieldLink RX10 60 "ParquetLayerModel" "from" "[I") := ⟨in_wsL_law_r4 _ (List.mem_of_getElem? (i := 1) rfl), good_of_word (by decide +kernel)⟩
theorem wd_46 : GW (.fieldLink RX10 57 "ParquetLayerModel" "seen" "[Z") := ⟨in_wsL_law_r4 _ (List.mem_of_getElem? (i := 0) rfl), good_of_word (by decide +kernel)⟩
theorem wd_47 : GW (.fieldLink RX10 54 "ParquetLayerModel" "mate" "[I") := ⟨in_wsL_law_r3 _ (List.mem_of_getElem? (i := 23) rfl), good_of_word (by decide +kernel)⟩
theorem wd_48 : GW (.fieldLink RX10 51 "ParquetLayerModel" "two" "[I") := ⟨in_wsL_law_r3 _ (List.mem_of_getElem? (i := 22) rfl), good_of_word (by decide +kernel)⟩
theorem wd_49 : GW (.fieldLink RX10 48 "ParquetLayerModel" "one" "[I") := ⟨in_wsL_law_r3 _ (List.mem_of_getElem? (i := 21) rfl), good_of_word (by decide +kernel)⟩
theorem wd_50 : GW (.fieldLink RX10 45 "ParquetLayerModel" "ways" "[I") := ⟨in_wsL_law_r3 _ (List.mem_of_getElem? (i := 20) rfl), good_of_word (by decide +kernel)⟩
theorem wd_51 : GW (.fieldLink RX10 42 "ParquetLayerModel" "met" "[Z") := ⟨in_wsL_law_r3 _ (List.mem_of_getElem? (i := 19) rfl), good_of_word (by decide +kernel)⟩
theorem wd_52 : GW (.fieldLink RX10 39 "ParquetLayerModel" "sheets" "[I") := ⟨in_wsL_law_r3 _ (List.mem_of_getElem? (i := 18) rfl), good_of_word (by decide +kernel)⟩
theorem wd_53 : GW (.fieldLink RX10 36 "ParquetLayerModel" "sizes" "[I") := ⟨in_wsL_law_r3 _ (List.mem_of_getElem? (i := 17) rfl), good_of_word (by decide +kernel)⟩
theorem wd_54 : GW (.fieldLink RX10 33 "ParquetLayerModel" "bits" "[I") := ⟨in_wsL_law_r3 _ (List.mem_of_getElem? (i := 16) rfl), good_of_word (by decide +kernel)⟩
theorem wd_55 : GW (.fieldLink RX10 30 "ParquetLayerModel" "pastAcross" "[J") := ⟨in_wsL_law_r3 _ (List.mem_of_getElem? (i := 15) rfl), good_of_word (by decide +kernel)⟩
theorem wd_56 : GW (.fieldLink RX10 27 "ParquetLayerModel" "pastAlong" "[J") := ⟨in_wsL_law_r3 _ (List.mem_of_getElem? (i := 14) rfl), good_of_word (by decide +kernel)⟩
theorem wd_57 : GW (.fieldLink RX10 23 "ParquetLayerModel" "pastLaid" "[Z") := ⟨in_wsL_law_r3 _ (List.mem_of_getElem? (i := 13) rfl), good_of_word (by decide +kernel)⟩
theorem wd_58 : GW (.arrayClass .boolean) := ⟨in_wsL_law_r3 _ (List.mem_of_getElem? (i := 12) rfl), good_of_word (by decide +kernel)⟩
theorem wd_59 : GW (.fieldLink RX10 20 "ParquetLayerModel" "pastStone" "[I") := ⟨in_wsL_law_r3 _ (List.mem_of_getElem? (i := 11) rfl), good_of_word (by decide +kernel)⟩
theorem wd_60 : GW (.fieldLink RX10 17 "ParquetLayerModel" "pastStones" "[I") := ⟨in_wsL_law_r3 _ (List.mem_of_getElem? (i := 10) rfl), good_of_word (by decide +kernel)⟩
theorem wd_61 : GW (.fieldLink RX10 13 "ParquetLayerModel" "pastFloor" "[J") := ⟨in_wsL_law_r3 _ (List.mem_of_getElem? (i := 9) rfl), good_of_word (by decide +kernel)⟩
theorem wd_62 : GW (.arrayClass .long) := ⟨in_wsL_law_r3 _ (List.mem_of_getElem? (i := 8) rfl), good_of_word (by decide +kernel)⟩
theorem wd_63 : GW (.fieldLink RX10 9 "ParquetLayerModel" "stone" "[I") := ⟨in_wsL_law_r3 _ (List.mem_of_getElem? (i := 7) rfl), good_of_word (by decide +kernel)⟩
theorem wd_64 : GW (.methodLink RX10 1 objectInit) := ⟨in_wsL_law_r3 _ (List.mem_of_getElem? (i := 6) rfl), good_of_word (by decide +kernel)⟩
set_option maxRecDepth 20000 in
theorem gr_wsX10_init : GoodIn lw_tbl wsX10_init := gi_cons wd_43 (goodIn_app (gi_cons wd_64 (gi_cons wd_23 (gi_cons wd_22 (gi_cons wd_42 (gi_cons wd_63 (gi_cons wd_62 (gi_cons wd_61 (gi_cons wd_60 (gi_cons wd_59 (gi_cons wd_58 (gi_cons wd_57 (gi_cons wd_56 (gi_cons wd_55 (gi_cons wd_54 (gi_cons wd_53 (gi_cons wd_52 (gi_cons wd_51 (gi_cons wd_50 (gi_cons wd_49 (gi_cons wd_48 (gi_cons wd_47 (gi_cons wd_46 (gi_cons wd_45 (gi_cons wd_44 (gi_nil))))))))))))))))))))))))) (gu_X10))
theorem wd_65 : GW (.code yX9_row cX9_row 5 (some .int)) := ⟨in_wsL_law_r4 _ (List.mem_of_getElem? (i := 6) rfl), good_of_word (by decide +kernel)⟩
theorem wd_66 : GW (.initialized RX1) := ⟨in_wsL_law_r5 _ (List.mem_of_getElem? (i := 5) rfl), good_of_word (by decide +kernel)⟩
theorem wd_67 : GW (.static yX1_touchesOutside) := ⟨in_wsL_law_r5 _ (List.mem_of_getElem? (i := 4) rfl), good_of_word (by decide +kernel)⟩
theorem wd_68 : GW (.methodLink RX9 124 yX1_touchesOutside) := ⟨in_wsL_law_r5 _ (List.mem_of_getElem? (i := 3) rfl), good_of_word (by decide +kernel)⟩
theorem wd_69 : GW (.fieldLink RX9 133 "ParquetLayer" "hand" "LParquetLayer$Laying;") := ⟨in_wsL_law_r5 _ (List.mem_of_getElem? (i := 2) rfl), good_of_word (by decide +kernel)⟩
theorem wd_70 : GW (.constant RX9 128 (-100004)) := ⟨in_wsL_law_r5 _ (List.mem_of_getElem? (i := 1) rfl), good_of_word (by decide +kernel)⟩
theorem wd_71 : GW (.fieldLink RX9 145 "ParquetLayer$Stone" "kind" "I") := ⟨in_wsL_law_r5 _ (List.mem_of_getElem? (i := 0) rfl), good_of_word (by decide +kernel)⟩
theorem wd_72 : GW (.fieldLink RX9 138 "ParquetLayer$Stone" "below" "LParquetLayer$Stone;") := ⟨in_wsL_law_r4 _ (List.mem_of_getElem? (i := 23) rfl), good_of_word (by decide +kernel)⟩
theorem wd_73 : GW (.constant RX9 123 (-100007)) := ⟨in_wsL_law_r4 _ (List.mem_of_getElem? (i := 22) rfl), good_of_word (by decide +kernel)⟩
theorem wd_74 : GW (.fieldLink RX9 116 "ParquetLayer$Stone" "cover" "J") := ⟨in_wsL_law_r4 _ (List.mem_of_getElem? (i := 21) rfl), good_of_word (by decide +kernel)⟩
theorem wd_75 : GW (.fieldLink RX9 106 "ParquetLayer" "latest" "LParquetLayer$Stone;") := ⟨in_wsL_law_r4 _ (List.mem_of_getElem? (i := 20) rfl), good_of_word (by decide +kernel)⟩
theorem wd_76 : GW (.code yX9_becomeFloor cX9_becomeFloor 4 (some .int)) := ⟨in_wsL_law_r4 _ (List.mem_of_getElem? (i := 19) rfl), good_of_word (by decide +kernel)⟩
theorem wd_77 : GW (.selects RX9 yX9_becomeFloor yX9_becomeFloor) := ⟨in_wsL_law_r4 _ (List.mem_of_getElem? (i := 18) rfl), good_of_word (by decide +kernel)⟩
theorem wd_78 : GW (.instanceMethod yX9_becomeFloor) := ⟨in_wsL_law_r4 _ (List.mem_of_getElem? (i := 17) rfl), good_of_word (by decide +kernel)⟩
theorem wd_79 : GW (.methodLink RX9 56 yX9_becomeFloor) := ⟨in_wsL_law_r4 _ (List.mem_of_getElem? (i := 16) rfl), good_of_word (by decide +kernel)⟩
theorem wd_80 : GW (.fieldLink RX9 323 "ParquetLayer" "findings" "I") := ⟨in_wsL_law_r4 _ (List.mem_of_getElem? (i := 15) rfl), good_of_word (by decide +kernel)⟩
theorem wd_81 : GW (.code yX9_finding cX9_finding 2 (some .int)) := ⟨in_wsL_law_r4 _ (List.mem_of_getElem? (i := 14) rfl), good_of_word (by decide +kernel)⟩
theorem wd_82 : GW (.initialized RX9) := ⟨in_wsL_law_r1 _ (List.mem_of_getElem? (i := 2) rfl), good_of_word (by decide +kernel)⟩
theorem wd_83 : GW (.selects RX9 yX9_finding yX9_finding) := ⟨in_wsL_law_r4 _ (List.mem_of_getElem? (i := 13) rfl), good_of_word (by decide +kernel)⟩
theorem wd_84 : GW (.instanceMethod yX9_finding) := ⟨in_wsL_law_r4 _ (List.mem_of_getElem? (i := 12) rfl), good_of_word (by decide +kernel)⟩
theorem wd_85 : GW (.methodLink RX9 44 yX9_finding) := ⟨in_wsL_law_r4 _ (List.mem_of_getElem? (i := 11) rfl), good_of_word (by decide +kernel)⟩
theorem wd_86 : GW (.constantLong RX9 54 (-1)) := ⟨in_wsL_law_r4 _ (List.mem_of_getElem? (i := 10) rfl), good_of_word (by decide +kernel)⟩
theorem wd_87 : GW (.constantLong RX9 52 (255)) := ⟨in_wsL_law_r4 _ (List.mem_of_getElem? (i := 9) rfl), good_of_word (by decide +kernel)⟩
theorem wd_88 : GW (.fieldLink RX9 48 "ParquetLayer" "fields" "J") := ⟨in_wsL_law_r4 _ (List.mem_of_getElem? (i := 8) rfl), good_of_word (by decide +kernel)⟩
theorem wd_89 : GW (.constant RX9 43 (-100001)) := ⟨in_wsL_law_r4 _ (List.mem_of_getElem? (i := 7) rfl), good_of_word (by decide +kernel)⟩
set_option maxRecDepth 20000 in
theorem gr_wsX9_row_r1 : GoodIn lw_tbl wsX9_row_r1 := gi_cons wd_89 (gi_cons wd_88 (gi_cons wd_87 (gi_cons wd_86 (gi_cons wd_85 (gi_cons wd_84 (gi_cons wd_83 (gi_cons wd_82 (gi_cons wd_81 (gi_cons wd_80 (gi_cons wd_79 (gi_cons wd_78 (gi_cons wd_77 (gi_cons wd_76 (gi_cons wd_75 (gi_cons wd_74 (gi_cons wd_73 (gi_cons wd_72 (gi_cons wd_71 (gi_cons wd_70 (gi_cons wd_69 (gi_cons wd_68 (gi_cons wd_67 (gi_cons wd_66 (gi_nil))))))))))))))))))))))))
theorem wd_90 : GW (.fieldLink RX5 7 "ParquetLayer$Past" "fields" "J") := ⟨in_wsL_law_r6 _ (List.mem_of_getElem? (i := 1) rfl), good_of_word (by decide +kernel)⟩
theorem wd_91 : GW (.methodLink RX5 1 objectInit) := ⟨in_wsL_law_r6 _ (List.mem_of_getElem? (i := 0) rfl), good_of_word (by decide +kernel)⟩
theorem wd_92 : GW (.code yX5_init cX5_init 5 none) := ⟨in_wsL_law_r5 _ (List.mem_of_getElem? (i := 23) rfl), good_of_word (by decide +kernel)⟩
theorem wd_93 : GW (.instanceMethod yX5_init) := ⟨in_wsL_law_r5 _ (List.mem_of_getElem? (i := 22) rfl), good_of_word (by decide +kernel)⟩
theorem wd_94 : GW (.methodLink RX9 330 yX5_init) := ⟨in_wsL_law_r5 _ (List.mem_of_getElem? (i := 21) rfl), good_of_word (by decide +kernel)⟩
theorem wd_95 : GW (.initialized RX5) := ⟨in_wsL_law_r5 _ (List.mem_of_getElem? (i := 20) rfl), good_of_word (by decide +kernel)⟩
theorem wd_96 : GW (.instantiable RX5 3) := ⟨in_wsL_law_r5 _ (List.mem_of_getElem? (i := 19) rfl), good_of_word (by decide +kernel)⟩
theorem wd_97 : GW (.fieldLink RX9 314 "ParquetLayer" "kept" "I") := ⟨in_wsL_law_r5 _ (List.mem_of_getElem? (i := 18) rfl), good_of_word (by decide +kernel)⟩
theorem wd_98 : GW (.code yX9_keepPast cX9_keepPast 2 none) := ⟨in_wsL_law_r5 _ (List.mem_of_getElem? (i := 17) rfl), good_of_word (by decide +kernel)⟩
theorem wd_99 : GW (.selects RX9 yX9_keepPast yX9_keepPast) := ⟨in_wsL_law_r5 _ (List.mem_of_getElem? (i := 16) rfl), good_of_word (by decide +kernel)⟩
theorem wd_100 : GW (.instanceMethod yX9_keepPast) := ⟨in_wsL_law_r5 _ (List.mem_of_getElem? (i := 15) rfl), good_of_word (by decide +kernel)⟩
theorem wd_101 : GW (.methodLink RX9 130 yX9_keepPast) := ⟨in_wsL_law_r5 _ (List.mem_of_getElem? (i := 14) rfl), good_of_word (by decide +kernel)⟩
theorem wd_102 : GW (.constantLong RX1 15 (-72340172838076674)) := ⟨in_wsL_law_r5 _ (List.mem_of_getElem? (i := 13) rfl), good_of_word (by decide +kernel)⟩
theorem wd_103 : GW (.constantLong RX1 13 (9187201950435737471)) := ⟨in_wsL_law_r5 _ (List.mem_of_getElem? (i := 12) rfl), good_of_word (by decide +kernel)⟩
theorem wd_104 : GW (.code yX1_beside cX1_beside 2 (some .long)) := ⟨in_wsL_law_r5 _ (List.mem_of_getElem? (i := 11) rfl), good_of_word (by decide +kernel)⟩
theorem wd_105 : GW (.static yX1_beside) := ⟨in_wsL_law_r5 _ (List.mem_of_getElem? (i := 10) rfl), good_of_word (by decide +kernel)⟩
theorem wd_106 : GW (.methodLink RX1 17 yX1_beside) := ⟨in_wsL_law_r5 _ (List.mem_of_getElem? (i := 9) rfl), good_of_word (by decide +kernel)⟩
theorem wd_107 : GW (.constantLong RX1 25 (-1)) := ⟨in_wsL_law_r5 _ (List.mem_of_getElem? (i := 8) rfl), good_of_word (by decide +kernel)⟩
theorem wd_108 : GW (.constantLong RX1 31 (-35604928818740737)) := ⟨in_wsL_law_r5 _ (List.mem_of_getElem? (i := 7) rfl), good_of_word (by decide +kernel)⟩
theorem wd_109 : GW (.code yX1_touchesOutside cX1_touchesOutside 4 (some .boolean)) := ⟨in_wsL_law_r5 _ (List.mem_of_getElem? (i := 6) rfl), good_of_word (by decide +kernel)⟩
set_option maxRecDepth 20000 in
theorem gr_wsX9_row_r2 : GoodIn lw_tbl wsX9_row_r2 := gi_cons wd_109 (gi_cons wd_108 (gi_cons wd_107 (gi_cons wd_106 (gi_cons wd_105 (gi_cons wd_104 (gi_cons wd_103 (gi_cons wd_102 (gi_cons wd_101 (gi_cons wd_100 (gi_cons wd_99 (gi_cons wd_98 (gi_cons wd_97 (gi_cons wd_18 (gi_cons wd_19 (gi_cons wd_96 (gi_cons wd_95 (gi_cons wd_94 (gi_cons wd_93 (gi_cons wd_92 (gi_cons wd_91 (gi_cons wd_23 (gi_cons wd_22 (gi_cons wd_90 (gi_nil))))))))))))))))))))))))
theorem wd_110 : GW (.constantLong RJ13 318 (1085102592571150095)) := ⟨in_wsL_law_r6 _ (List.mem_of_getElem? (i := 10) rfl), good_of_word (by decide +kernel)⟩
theorem wd_111 : GW (.constantLong RJ13 316 (3689348814741910323)) := ⟨in_wsL_law_r6 _ (List.mem_of_getElem? (i := 9) rfl), good_of_word (by decide +kernel)⟩
theorem wd_112 : GW (.constantLong RJ13 314 (6148914691236517205)) := ⟨in_wsL_law_r6 _ (List.mem_of_getElem? (i := 8) rfl), good_of_word (by decide +kernel)⟩
theorem wd_113 : GW (.code yJ13_bitCount_95d88 cJ13_bitCount_95d88 2 (some .int)) := ⟨in_wsL_law_r6 _ (List.mem_of_getElem? (i := 7) rfl), good_of_word (by decide +kernel)⟩
theorem wd_114 : GW (.initialized RJ13) := ⟨in_wsL_law_r6 _ (List.mem_of_getElem? (i := 6) rfl), good_of_word (by decide +kernel)⟩
theorem wd_115 : GW (.static yJ13_bitCount_95d88) := ⟨in_wsL_law_r6 _ (List.mem_of_getElem? (i := 5) rfl), good_of_word (by decide +kernel)⟩
theorem wd_116 : GW (.methodLink RX9 74 yJ13_bitCount_95d88) := ⟨in_wsL_law_r6 _ (List.mem_of_getElem? (i := 4) rfl), good_of_word (by decide +kernel)⟩
theorem wd_117 : GW (.fieldLink RX5 17 "ParquetLayer$Past" "hand" "LParquetLayer$Laying;") := ⟨in_wsL_law_r6 _ (List.mem_of_getElem? (i := 3) rfl), good_of_word (by decide +kernel)⟩
theorem wd_118 : GW (.fieldLink RX5 13 "ParquetLayer$Past" "latest" "LParquetLayer$Stone;") := ⟨in_wsL_law_r6 _ (List.mem_of_getElem? (i := 2) rfl), good_of_word (by decide +kernel)⟩
set_option maxRecDepth 20000 in
theorem gr_wsX9_row_r3 : GoodIn lw_tbl wsX9_row_r3 := gi_cons wd_118 (gi_cons wd_117 (gi_cons wd_116 (gi_cons wd_115 (gi_cons wd_114 (gi_cons wd_113 (gi_cons wd_112 (gi_cons wd_111 (gi_cons wd_110 (gi_nil)))))))))
set_option maxRecDepth 20000 in
theorem gr_wsX9_row : GoodIn lw_tbl wsX9_row := gi_cons wd_65 (goodIn_app (goodIn_app (goodIn_app (goodIn_app (gr_wsX9_row_r1) (goodIn_app (gr_wsX9_row_r2) (gr_wsX9_row_r3))) (gu_X9)) (gu_X7)) (gu_X5))
theorem wd_119 : GW (.methodLink RL 13 yX9_row) := ⟨in_wsL_law_r4 _ (List.mem_of_getElem? (i := 3) rfl), good_of_word (by decide +kernel)⟩
theorem wd_120 : GW (.instanceMethod yX9_row) := ⟨in_wsL_law_r4 _ (List.mem_of_getElem? (i := 4) rfl), good_of_word (by decide +kernel)⟩
theorem wd_121 : GW (.selects RX9 yX9_row yX9_row) := ⟨in_wsL_law_r4 _ (List.mem_of_getElem? (i := 5) rfl), good_of_word (by decide +kernel)⟩
theorem gq_X9_row : GoodIn lw_tbl (wsV RL 13 RX9 yX9_row wsX9_row) := goodIn_app (gi_cons wd_119 (gi_cons wd_120 (gi_cons wd_121 (gi_cons wd_82 gi_nil)))) gr_wsX9_row
theorem wd_122 : GW (.code yX10_row cX10_row 3 (some .int)) := ⟨in_wsL_law_r6 _ (List.mem_of_getElem? (i := 14) rfl), good_of_word (by decide +kernel)⟩
theorem wd_123 : GW (.code yX10_fieldOf cX10_fieldOf 2 (some .int)) := ⟨in_wsL_law_r7 _ (List.mem_of_getElem? (i := 13) rfl), good_of_word (by decide +kernel)⟩
theorem wd_124 : GW (.selects RX10 yX10_fieldOf yX10_fieldOf) := ⟨in_wsL_law_r7 _ (List.mem_of_getElem? (i := 12) rfl), good_of_word (by decide +kernel)⟩
theorem wd_125 : GW (.instanceMethod yX10_fieldOf) := ⟨in_wsL_law_r7 _ (List.mem_of_getElem? (i := 11) rfl), good_of_word (by decide +kernel)⟩
theorem wd_126 : GW (.methodLink RX10 115 yX10_fieldOf) := ⟨in_wsL_law_r7 _ (List.mem_of_getElem? (i := 10) rfl), good_of_word (by decide +kernel)⟩
theorem wd_127 : GW (.constant RX10 133 (-100004)) := ⟨in_wsL_law_r7 _ (List.mem_of_getElem? (i := 9) rfl), good_of_word (by decide +kernel)⟩
theorem wd_128 : GW (.constant RX10 128 (-100007)) := ⟨in_wsL_law_r7 _ (List.mem_of_getElem? (i := 8) rfl), good_of_word (by decide +kernel)⟩
theorem wd_129 : GW (.fieldLink RX10 85 "ParquetLayerModel" "stones" "I") := ⟨in_wsL_law_r7 _ (List.mem_of_getElem? (i := 7) rfl), good_of_word (by decide +kernel)⟩
theorem wd_130 : GW (.code yX10_newFloor cX10_newFloor 4 (some .int)) := ⟨in_wsL_law_r7 _ (List.mem_of_getElem? (i := 6) rfl), good_of_word (by decide +kernel)⟩
theorem wd_131 : GW (.selects RX10 yX10_newFloor yX10_newFloor) := ⟨in_wsL_law_r7 _ (List.mem_of_getElem? (i := 5) rfl), good_of_word (by decide +kernel)⟩
theorem wd_132 : GW (.instanceMethod yX10_newFloor) := ⟨in_wsL_law_r7 _ (List.mem_of_getElem? (i := 4) rfl), good_of_word (by decide +kernel)⟩
theorem wd_133 : GW (.methodLink RX10 144 yX10_newFloor) := ⟨in_wsL_law_r7 _ (List.mem_of_getElem? (i := 3) rfl), good_of_word (by decide +kernel)⟩
theorem wd_134 : GW (.fieldLink RX10 66 "ParquetLayerModel" "findings" "I") := ⟨in_wsL_law_r7 _ (List.mem_of_getElem? (i := 2) rfl), good_of_word (by decide +kernel)⟩
theorem wd_135 : GW (.code yX10_finding cX10_finding 2 (some .int)) := ⟨in_wsL_law_r7 _ (List.mem_of_getElem? (i := 1) rfl), good_of_word (by decide +kernel)⟩
theorem wd_136 : GW (.selects RX10 yX10_finding yX10_finding) := ⟨in_wsL_law_r7 _ (List.mem_of_getElem? (i := 0) rfl), good_of_word (by decide +kernel)⟩
theorem wd_137 : GW (.instanceMethod yX10_finding) := ⟨in_wsL_law_r6 _ (List.mem_of_getElem? (i := 23) rfl), good_of_word (by decide +kernel)⟩
theorem wd_138 : GW (.methodLink RX10 99 yX10_finding) := ⟨in_wsL_law_r6 _ (List.mem_of_getElem? (i := 22) rfl), good_of_word (by decide +kernel)⟩
theorem wd_139 : GW (.code yX10_within cX10_within 3 (some .boolean)) := ⟨in_wsL_law_r6 _ (List.mem_of_getElem? (i := 21) rfl), good_of_word (by decide +kernel)⟩
theorem wd_140 : GW (.initialized RX10) := ⟨in_wsL_law_r1 _ (List.mem_of_getElem? (i := 5) rfl), good_of_word (by decide +kernel)⟩
theorem wd_141 : GW (.static yX10_within) := ⟨in_wsL_law_r6 _ (List.mem_of_getElem? (i := 20) rfl), good_of_word (by decide +kernel)⟩
theorem wd_142 : GW (.methodLink RX10 70 yX10_within) := ⟨in_wsL_law_r6 _ (List.mem_of_getElem? (i := 19) rfl), good_of_word (by decide +kernel)⟩
theorem wd_143 : GW (.constantLong RX10 126 (-1)) := ⟨in_wsL_law_r6 _ (List.mem_of_getElem? (i := 18) rfl), good_of_word (by decide +kernel)⟩
theorem wd_144 : GW (.constantLong RX10 142 (255)) := ⟨in_wsL_law_r6 _ (List.mem_of_getElem? (i := 17) rfl), good_of_word (by decide +kernel)⟩
theorem wd_145 : GW (.fieldLink RX10 81 "ParquetLayerModel" "floor" "J") := ⟨in_wsL_law_r6 _ (List.mem_of_getElem? (i := 16) rfl), good_of_word (by decide +kernel)⟩
theorem wd_146 : GW (.constant RX10 141 (-100001)) := ⟨in_wsL_law_r6 _ (List.mem_of_getElem? (i := 15) rfl), good_of_word (by decide +kernel)⟩
set_option maxRecDepth 20000 in
theorem gr_wsX10_row_r1 : GoodIn lw_tbl wsX10_row_r1 := gi_cons wd_146 (gi_cons wd_145 (gi_cons wd_144 (gi_cons wd_143 (gi_cons wd_142 (gi_cons wd_141 (gi_cons wd_140 (gi_cons wd_139 (gi_cons wd_138 (gi_cons wd_137 (gi_cons wd_136 (gi_cons wd_135 (gi_cons wd_134 (gi_cons wd_133 (gi_cons wd_132 (gi_cons wd_131 (gi_cons wd_130 (gi_cons wd_129 (gi_cons wd_128 (gi_cons wd_127 (gi_cons wd_126 (gi_cons wd_125 (gi_cons wd_124 (gi_cons wd_123 (gi_nil))))))))))))))))))))))))
theorem wd_147 : GW (.static yX10_hasBit) := ⟨in_wsL_law_r8 _ (List.mem_of_getElem? (i := 12) rfl), good_of_word (by decide +kernel)⟩
theorem wd_148 : GW (.methodLink RX10 74 yX10_hasBit) := ⟨in_wsL_law_r8 _ (List.mem_of_getElem? (i := 11) rfl), good_of_word (by decide +kernel)⟩
theorem wd_149 : GW (.code yX10_isOn cX10_isOn 4 (some .boolean)) := ⟨in_wsL_law_r8 _ (List.mem_of_getElem? (i := 10) rfl), good_of_word (by decide +kernel)⟩
theorem wd_150 : GW (.static yX10_isOn) := ⟨in_wsL_law_r8 _ (List.mem_of_getElem? (i := 9) rfl), good_of_word (by decide +kernel)⟩
theorem wd_151 : GW (.methodLink RX10 108 yX10_isOn) := ⟨in_wsL_law_r8 _ (List.mem_of_getElem? (i := 8) rfl), good_of_word (by decide +kernel)⟩
theorem wd_152 : GW (.code yX10_touches cX10_touches 5 (some .boolean)) := ⟨in_wsL_law_r8 _ (List.mem_of_getElem? (i := 7) rfl), good_of_word (by decide +kernel)⟩
theorem wd_153 : GW (.static yX10_touches) := ⟨in_wsL_law_r8 _ (List.mem_of_getElem? (i := 6) rfl), good_of_word (by decide +kernel)⟩
theorem wd_154 : GW (.methodLink RX10 112 yX10_touches) := ⟨in_wsL_law_r8 _ (List.mem_of_getElem? (i := 5) rfl), good_of_word (by decide +kernel)⟩
theorem wd_155 : GW (.code yX10_isAtEdge cX10_isAtEdge 4 (some .boolean)) := ⟨in_wsL_law_r8 _ (List.mem_of_getElem? (i := 4) rfl), good_of_word (by decide +kernel)⟩
theorem wd_156 : GW (.static yX10_isAtEdge) := ⟨in_wsL_law_r8 _ (List.mem_of_getElem? (i := 3) rfl), good_of_word (by decide +kernel)⟩
theorem wd_157 : GW (.methodLink RX10 129 yX10_isAtEdge) := ⟨in_wsL_law_r8 _ (List.mem_of_getElem? (i := 2) rfl), good_of_word (by decide +kernel)⟩
theorem wd_158 : GW (.code yX10_kindOf cX10_kindOf 2 (some .int)) := ⟨in_wsL_law_r8 _ (List.mem_of_getElem? (i := 1) rfl), good_of_word (by decide +kernel)⟩
theorem wd_159 : GW (.selects RX10 yX10_kindOf yX10_kindOf) := ⟨in_wsL_law_r8 _ (List.mem_of_getElem? (i := 0) rfl), good_of_word (by decide +kernel)⟩
theorem wd_160 : GW (.instanceMethod yX10_kindOf) := ⟨in_wsL_law_r7 _ (List.mem_of_getElem? (i := 23) rfl), good_of_word (by decide +kernel)⟩
theorem wd_161 : GW (.methodLink RX10 103 yX10_kindOf) := ⟨in_wsL_law_r7 _ (List.mem_of_getElem? (i := 22) rfl), good_of_word (by decide +kernel)⟩
theorem wd_162 : GW (.constantLong RX10 106 (3)) := ⟨in_wsL_law_r7 _ (List.mem_of_getElem? (i := 21) rfl), good_of_word (by decide +kernel)⟩
theorem wd_163 : GW (.code yX10_place cX10_place 2 (some .long)) := ⟨in_wsL_law_r7 _ (List.mem_of_getElem? (i := 20) rfl), good_of_word (by decide +kernel)⟩
theorem wd_164 : GW (.static yX10_place) := ⟨in_wsL_law_r7 _ (List.mem_of_getElem? (i := 19) rfl), good_of_word (by decide +kernel)⟩
theorem wd_165 : GW (.methodLink RX10 122 yX10_place) := ⟨in_wsL_law_r7 _ (List.mem_of_getElem? (i := 18) rfl), good_of_word (by decide +kernel)⟩
theorem wd_166 : GW (.code yX10_isAcross cX10_isAcross 2 (some .boolean)) := ⟨in_wsL_law_r7 _ (List.mem_of_getElem? (i := 17) rfl), good_of_word (by decide +kernel)⟩
theorem wd_167 : GW (.selects RX10 yX10_isAcross yX10_isAcross) := ⟨in_wsL_law_r7 _ (List.mem_of_getElem? (i := 16) rfl), good_of_word (by decide +kernel)⟩
theorem wd_168 : GW (.instanceMethod yX10_isAcross) := ⟨in_wsL_law_r7 _ (List.mem_of_getElem? (i := 15) rfl), good_of_word (by decide +kernel)⟩
theorem wd_169 : GW (.methodLink RX10 118 yX10_isAcross) := ⟨in_wsL_law_r7 _ (List.mem_of_getElem? (i := 14) rfl), good_of_word (by decide +kernel)⟩
set_option maxRecDepth 20000 in
theorem gr_wsX10_row_r2 : GoodIn lw_tbl wsX10_row_r2 := gi_cons wd_63 (gi_cons wd_169 (gi_cons wd_168 (gi_cons wd_167 (gi_cons wd_166 (gi_cons wd_165 (gi_cons wd_164 (gi_cons wd_163 (gi_cons wd_162 (gi_cons wd_161 (gi_cons wd_160 (gi_cons wd_159 (gi_cons wd_158 (gi_cons wd_157 (gi_cons wd_156 (gi_cons wd_155 (gi_cons wd_154 (gi_cons wd_153 (gi_cons wd_152 (gi_cons wd_151 (gi_cons wd_150 (gi_cons wd_149 (gi_cons wd_148 (gi_cons wd_147 (gi_nil))))))))))))))))))))))))
theorem wd_170 : GW (.code yX10_many cX10_many 4 (some .int)) := ⟨in_wsL_law_r9 _ (List.mem_of_getElem? (i := 0) rfl), good_of_word (by decide +kernel)⟩
theorem wd_171 : GW (.static yX10_many) := ⟨in_wsL_law_r8 _ (List.mem_of_getElem? (i := 23) rfl), good_of_word (by decide +kernel)⟩
theorem wd_172 : GW (.methodLink RX10 137 yX10_many) := ⟨in_wsL_law_r8 _ (List.mem_of_getElem? (i := 22) rfl), good_of_word (by decide +kernel)⟩
theorem wd_173 : GW (.fieldLink RX10 95 "ParquetLayerModel" "across" "J") := ⟨in_wsL_law_r8 _ (List.mem_of_getElem? (i := 21) rfl), good_of_word (by decide +kernel)⟩
theorem wd_174 : GW (.fieldLink RX10 92 "ParquetLayerModel" "along" "J") := ⟨in_wsL_law_r8 _ (List.mem_of_getElem? (i := 20) rfl), good_of_word (by decide +kernel)⟩
theorem wd_175 : GW (.fieldLink RX10 88 "ParquetLayerModel" "isLaid" "Z") := ⟨in_wsL_law_r8 _ (List.mem_of_getElem? (i := 19) rfl), good_of_word (by decide +kernel)⟩
theorem wd_176 : GW (.fieldLink RX10 78 "ParquetLayerModel" "kept" "I") := ⟨in_wsL_law_r8 _ (List.mem_of_getElem? (i := 18) rfl), good_of_word (by decide +kernel)⟩
theorem wd_177 : GW (.code yX10_keep cX10_keep 3 none) := ⟨in_wsL_law_r8 _ (List.mem_of_getElem? (i := 17) rfl), good_of_word (by decide +kernel)⟩
theorem wd_178 : GW (.selects RX10 yX10_keep yX10_keep) := ⟨in_wsL_law_r8 _ (List.mem_of_getElem? (i := 16) rfl), good_of_word (by decide +kernel)⟩
theorem wd_179 : GW (.instanceMethod yX10_keep) := ⟨in_wsL_law_r8 _ (List.mem_of_getElem? (i := 15) rfl), good_of_word (by decide +kernel)⟩
theorem wd_180 : GW (.methodLink RX10 134 yX10_keep) := ⟨in_wsL_law_r8 _ (List.mem_of_getElem? (i := 14) rfl), good_of_word (by decide +kernel)⟩
theorem wd_181 : GW (.code yX10_hasBit cX10_hasBit 3 (some .boolean)) := ⟨in_wsL_law_r8 _ (List.mem_of_getElem? (i := 13) rfl), good_of_word (by decide +kernel)⟩
set_option maxRecDepth 20000 in
theorem gr_wsX10_row_r3 : GoodIn lw_tbl wsX10_row_r3 := gi_cons wd_181 (gi_cons wd_180 (gi_cons wd_179 (gi_cons wd_178 (gi_cons wd_177 (gi_cons wd_176 (gi_cons wd_61 (gi_cons wd_60 (gi_cons wd_57 (gi_cons wd_56 (gi_cons wd_55 (gi_cons wd_59 (gi_cons wd_175 (gi_cons wd_174 (gi_cons wd_173 (gi_cons wd_172 (gi_cons wd_171 (gi_cons wd_170 (gi_nil))))))))))))))))))
set_option maxRecDepth 20000 in
theorem gr_wsX10_row : GoodIn lw_tbl wsX10_row := gi_cons wd_122 (goodIn_app (goodIn_app (gr_wsX10_row_r1) (goodIn_app (gr_wsX10_row_r2) (gr_wsX10_row_r3))) (gu_X10))
theorem wd_182 : GW (.methodLink RL 17 yX10_row) := ⟨in_wsL_law_r6 _ (List.mem_of_getElem? (i := 11) rfl), good_of_word (by decide +kernel)⟩
theorem wd_183 : GW (.instanceMethod yX10_row) := ⟨in_wsL_law_r6 _ (List.mem_of_getElem? (i := 12) rfl), good_of_word (by decide +kernel)⟩
theorem wd_184 : GW (.selects RX10 yX10_row yX10_row) := ⟨in_wsL_law_r6 _ (List.mem_of_getElem? (i := 13) rfl), good_of_word (by decide +kernel)⟩
theorem gq_X10_row : GoodIn lw_tbl (wsV RL 17 RX10 yX10_row wsX10_row) := goodIn_app (gi_cons wd_182 (gi_cons wd_183 (gi_cons wd_184 (gi_cons wd_140 gi_nil)))) gr_wsX10_row
theorem wd_185 : GW (.code yX9_has cX9_has 2 (some .int)) := ⟨in_wsL_law_r9 _ (List.mem_of_getElem? (i := 4) rfl), good_of_word (by decide +kernel)⟩
theorem wd_186 : GW (.code yX9_asNumber cX9_asNumber 1 (some .int)) := ⟨in_wsL_law_r9 _ (List.mem_of_getElem? (i := 13) rfl), good_of_word (by decide +kernel)⟩
theorem wd_187 : GW (.static yX9_asNumber) := ⟨in_wsL_law_r9 _ (List.mem_of_getElem? (i := 12) rfl), good_of_word (by decide +kernel)⟩
theorem wd_188 : GW (.methodLink RX9 70 yX9_asNumber) := ⟨in_wsL_law_r9 _ (List.mem_of_getElem? (i := 11) rfl), good_of_word (by decide +kernel)⟩
theorem wd_189 : GW (.code yX1_holds cX1_holds 3 (some .boolean)) := ⟨in_wsL_law_r9 _ (List.mem_of_getElem? (i := 10) rfl), good_of_word (by decide +kernel)⟩
theorem wd_190 : GW (.static yX1_holds) := ⟨in_wsL_law_r9 _ (List.mem_of_getElem? (i := 9) rfl), good_of_word (by decide +kernel)⟩
theorem wd_191 : GW (.methodLink RX9 66 yX1_holds) := ⟨in_wsL_law_r9 _ (List.mem_of_getElem? (i := 8) rfl), good_of_word (by decide +kernel)⟩
theorem wd_192 : GW (.code yX1_isField cX1_isField 1 (some .boolean)) := ⟨in_wsL_law_r9 _ (List.mem_of_getElem? (i := 7) rfl), good_of_word (by decide +kernel)⟩
theorem wd_193 : GW (.static yX1_isField) := ⟨in_wsL_law_r9 _ (List.mem_of_getElem? (i := 6) rfl), good_of_word (by decide +kernel)⟩
theorem wd_194 : GW (.methodLink RX9 60 yX1_isField) := ⟨in_wsL_law_r9 _ (List.mem_of_getElem? (i := 5) rfl), good_of_word (by decide +kernel)⟩
set_option maxRecDepth 20000 in
theorem gr_wsX9_has : GoodIn lw_tbl wsX9_has := gi_cons wd_185 (goodIn_app (gi_cons wd_89 (gi_cons wd_88 (gi_cons wd_194 (gi_cons wd_193 (gi_cons wd_66 (gi_cons wd_192 (gi_cons wd_85 (gi_cons wd_84 (gi_cons wd_83 (gi_cons wd_82 (gi_cons wd_81 (gi_cons wd_80 (gi_cons wd_191 (gi_cons wd_190 (gi_cons wd_189 (gi_cons wd_188 (gi_cons wd_187 (gi_cons wd_186 (gi_nil))))))))))))))))))) (gu_X9))
theorem wd_195 : GW (.methodLink RL 18 yX9_has) := ⟨in_wsL_law_r9 _ (List.mem_of_getElem? (i := 1) rfl), good_of_word (by decide +kernel)⟩
theorem wd_196 : GW (.instanceMethod yX9_has) := ⟨in_wsL_law_r9 _ (List.mem_of_getElem? (i := 2) rfl), good_of_word (by decide +kernel)⟩
theorem wd_197 : GW (.selects RX9 yX9_has yX9_has) := ⟨in_wsL_law_r9 _ (List.mem_of_getElem? (i := 3) rfl), good_of_word (by decide +kernel)⟩
theorem gq_X9_has : GoodIn lw_tbl (wsV RL 18 RX9 yX9_has wsX9_has) := goodIn_app (gi_cons wd_195 (gi_cons wd_196 (gi_cons wd_197 (gi_cons wd_82 gi_nil)))) gr_wsX9_has
theorem wd_198 : GW (.code yX10_has cX10_has 2 (some .int)) := ⟨in_wsL_law_r9 _ (List.mem_of_getElem? (i := 17) rfl), good_of_word (by decide +kernel)⟩
theorem wd_199 : GW (.code yX10_isField cX10_isField 1 (some .boolean)) := ⟨in_wsL_law_r9 _ (List.mem_of_getElem? (i := 20) rfl), good_of_word (by decide +kernel)⟩
theorem wd_200 : GW (.static yX10_isField) := ⟨in_wsL_law_r9 _ (List.mem_of_getElem? (i := 19) rfl), good_of_word (by decide +kernel)⟩
theorem wd_201 : GW (.methodLink RX10 147 yX10_isField) := ⟨in_wsL_law_r9 _ (List.mem_of_getElem? (i := 18) rfl), good_of_word (by decide +kernel)⟩
set_option maxRecDepth 20000 in
theorem gr_wsX10_has : GoodIn lw_tbl wsX10_has := gi_cons wd_198 (goodIn_app (gi_cons wd_146 (gi_cons wd_145 (gi_cons wd_201 (gi_cons wd_200 (gi_cons wd_140 (gi_cons wd_199 (gi_cons wd_142 (gi_cons wd_141 (gi_cons wd_139 (gi_cons wd_138 (gi_cons wd_137 (gi_cons wd_136 (gi_cons wd_135 (gi_cons wd_134 (gi_cons wd_148 (gi_cons wd_147 (gi_cons wd_181 (gi_nil)))))))))))))))))) (gu_X10))
theorem wd_202 : GW (.methodLink RL 22 yX10_has) := ⟨in_wsL_law_r9 _ (List.mem_of_getElem? (i := 14) rfl), good_of_word (by decide +kernel)⟩
theorem wd_203 : GW (.instanceMethod yX10_has) := ⟨in_wsL_law_r9 _ (List.mem_of_getElem? (i := 15) rfl), good_of_word (by decide +kernel)⟩
theorem wd_204 : GW (.selects RX10 yX10_has yX10_has) := ⟨in_wsL_law_r9 _ (List.mem_of_getElem? (i := 16) rfl), good_of_word (by decide +kernel)⟩
theorem gq_X10_has : GoodIn lw_tbl (wsV RL 22 RX10 yX10_has wsX10_has) := goodIn_app (gi_cons wd_202 (gi_cons wd_203 (gi_cons wd_204 (gi_cons wd_140 gi_nil)))) gr_wsX10_has
theorem wd_205 : GW (.code yX9_floor cX9_floor 2 (some .int)) := ⟨in_wsL_law_r10 _ (List.mem_of_getElem? (i := 0) rfl), good_of_word (by decide +kernel)⟩
theorem wd_206 : GW (.code yX1_hangingTogether cX1_hangingTogether 9 (some .long)) := ⟨in_wsL_law_r10 _ (List.mem_of_getElem? (i := 8) rfl), good_of_word (by decide +kernel)⟩
theorem wd_207 : GW (.static yX1_hangingTogether) := ⟨in_wsL_law_r10 _ (List.mem_of_getElem? (i := 7) rfl), good_of_word (by decide +kernel)⟩
theorem wd_208 : GW (.methodLink RX1 21 yX1_hangingTogether) := ⟨in_wsL_law_r10 _ (List.mem_of_getElem? (i := 6) rfl), good_of_word (by decide +kernel)⟩
theorem wd_209 : GW (.methodLink RX1 7 yX1_holds) := ⟨in_wsL_law_r10 _ (List.mem_of_getElem? (i := 5) rfl), good_of_word (by decide +kernel)⟩
theorem wd_210 : GW (.code yX1_pieces cX1_pieces 6 (some .int)) := ⟨in_wsL_law_r10 _ (List.mem_of_getElem? (i := 4) rfl), good_of_word (by decide +kernel)⟩
theorem wd_211 : GW (.static yX1_pieces) := ⟨in_wsL_law_r10 _ (List.mem_of_getElem? (i := 3) rfl), good_of_word (by decide +kernel)⟩
theorem wd_212 : GW (.methodLink RX9 81 yX1_pieces) := ⟨in_wsL_law_r10 _ (List.mem_of_getElem? (i := 2) rfl), good_of_word (by decide +kernel)⟩
theorem wd_213 : GW (.constantLong RX9 79 (-6172840429334713771)) := ⟨in_wsL_law_r10 _ (List.mem_of_getElem? (i := 1) rfl), good_of_word (by decide +kernel)⟩
set_option maxRecDepth 20000 in
theorem gr_wsX9_floor_r1 : GoodIn lw_tbl wsX9_floor_r1 := gi_cons wd_88 (gi_cons wd_213 (gi_cons wd_89 (gi_cons wd_116 (gi_cons wd_115 (gi_cons wd_114 (gi_cons wd_113 (gi_cons wd_112 (gi_cons wd_111 (gi_cons wd_110 (gi_cons wd_212 (gi_cons wd_211 (gi_cons wd_66 (gi_cons wd_210 (gi_cons wd_107 (gi_cons wd_209 (gi_cons wd_190 (gi_cons wd_189 (gi_cons wd_208 (gi_cons wd_207 (gi_cons wd_206 (gi_cons wd_106 (gi_cons wd_105 (gi_cons wd_104 (gi_nil))))))))))))))))))))))))
theorem wd_214 : GW (.static yX1_isDisc) := ⟨in_wsL_law_r11 _ (List.mem_of_getElem? (i := 2) rfl), good_of_word (by decide +kernel)⟩
theorem wd_215 : GW (.methodLink RX9 326 yX1_isDisc) := ⟨in_wsL_law_r11 _ (List.mem_of_getElem? (i := 1) rfl), good_of_word (by decide +kernel)⟩
theorem wd_216 : GW (.code yX9_isUnder cX9_isUnder 2 (some .boolean)) := ⟨in_wsL_law_r11 _ (List.mem_of_getElem? (i := 0) rfl), good_of_word (by decide +kernel)⟩
theorem wd_217 : GW (.static yX9_isUnder) := ⟨in_wsL_law_r10 _ (List.mem_of_getElem? (i := 23) rfl), good_of_word (by decide +kernel)⟩
theorem wd_218 : GW (.fieldLink RX7 19 "ParquetLayer$Stone" "kind" "I") := ⟨in_wsL_law_r10 _ (List.mem_of_getElem? (i := 22) rfl), good_of_word (by decide +kernel)⟩
theorem wd_219 : GW (.code yX7_isGlued cX7_isGlued 1 (some .boolean)) := ⟨in_wsL_law_r10 _ (List.mem_of_getElem? (i := 21) rfl), good_of_word (by decide +kernel)⟩
theorem wd_220 : GW (.initialized RX7) := ⟨in_wsL_law_r10 _ (List.mem_of_getElem? (i := 20) rfl), good_of_word (by decide +kernel)⟩
theorem wd_221 : GW (.selects RX7 yX7_isGlued yX7_isGlued) := ⟨in_wsL_law_r10 _ (List.mem_of_getElem? (i := 19) rfl), good_of_word (by decide +kernel)⟩
theorem wd_222 : GW (.instanceMethod yX7_isGlued) := ⟨in_wsL_law_r10 _ (List.mem_of_getElem? (i := 18) rfl), good_of_word (by decide +kernel)⟩
theorem wd_223 : GW (.methodLink RX9 113 yX7_isGlued) := ⟨in_wsL_law_r10 _ (List.mem_of_getElem? (i := 17) rfl), good_of_word (by decide +kernel)⟩
theorem wd_224 : GW (.code yX9_gluedFields cX9_gluedFields 4 (some .long)) := ⟨in_wsL_law_r10 _ (List.mem_of_getElem? (i := 16) rfl), good_of_word (by decide +kernel)⟩
theorem wd_225 : GW (.selects RX9 yX9_gluedFields yX9_gluedFields) := ⟨in_wsL_law_r10 _ (List.mem_of_getElem? (i := 15) rfl), good_of_word (by decide +kernel)⟩
theorem wd_226 : GW (.instanceMethod yX9_gluedFields) := ⟨in_wsL_law_r10 _ (List.mem_of_getElem? (i := 14) rfl), good_of_word (by decide +kernel)⟩
theorem wd_227 : GW (.methodLink RX9 119 yX9_gluedFields) := ⟨in_wsL_law_r10 _ (List.mem_of_getElem? (i := 13) rfl), good_of_word (by decide +kernel)⟩
theorem wd_228 : GW (.code yX9_isWhole cX9_isWhole 1 (some .boolean)) := ⟨in_wsL_law_r10 _ (List.mem_of_getElem? (i := 12) rfl), good_of_word (by decide +kernel)⟩
theorem wd_229 : GW (.selects RX9 yX9_isWhole yX9_isWhole) := ⟨in_wsL_law_r10 _ (List.mem_of_getElem? (i := 11) rfl), good_of_word (by decide +kernel)⟩
theorem wd_230 : GW (.instanceMethod yX9_isWhole) := ⟨in_wsL_law_r10 _ (List.mem_of_getElem? (i := 10) rfl), good_of_word (by decide +kernel)⟩
theorem wd_231 : GW (.methodLink RX9 84 yX9_isWhole) := ⟨in_wsL_law_r10 _ (List.mem_of_getElem? (i := 9) rfl), good_of_word (by decide +kernel)⟩
set_option maxRecDepth 20000 in
theorem gr_wsX9_floor_r2 : GoodIn lw_tbl wsX9_floor_r2 := gi_cons wd_103 (gi_cons wd_102 (gi_cons wd_231 (gi_cons wd_230 (gi_cons wd_229 (gi_cons wd_82 (gi_cons wd_228 (gi_cons wd_227 (gi_cons wd_226 (gi_cons wd_225 (gi_cons wd_224 (gi_cons wd_75 (gi_cons wd_74 (gi_cons wd_72 (gi_cons wd_223 (gi_cons wd_222 (gi_cons wd_221 (gi_cons wd_220 (gi_cons wd_219 (gi_cons wd_218 (gi_cons wd_217 (gi_cons wd_216 (gi_cons wd_215 (gi_cons wd_214 (gi_nil))))))))))))))))))))))))
theorem wd_232 : GW (.methodLink RX1 27 yX1_pieces) := ⟨in_wsL_law_r11 _ (List.mem_of_getElem? (i := 4) rfl), good_of_word (by decide +kernel)⟩
theorem wd_233 : GW (.code yX1_isDisc cX1_isDisc 2 (some .boolean)) := ⟨in_wsL_law_r11 _ (List.mem_of_getElem? (i := 3) rfl), good_of_word (by decide +kernel)⟩
set_option maxRecDepth 20000 in
theorem gr_wsX9_floor_r3 : GoodIn lw_tbl wsX9_floor_r3 := gi_cons wd_233 (gi_cons wd_108 (gi_cons wd_232 (gi_cons wd_188 (gi_cons wd_187 (gi_cons wd_186 (gi_cons wd_85 (gi_cons wd_84 (gi_cons wd_83 (gi_cons wd_81 (gi_cons wd_80 (gi_nil)))))))))))
set_option maxRecDepth 20000 in
theorem gr_wsX9_floor : GoodIn lw_tbl wsX9_floor := gi_cons wd_205 (goodIn_app (goodIn_app (goodIn_app (gr_wsX9_floor_r1) (goodIn_app (gr_wsX9_floor_r2) (gr_wsX9_floor_r3))) (gu_X9)) (gu_X7))
theorem wd_234 : GW (.methodLink RL 23 yX9_floor) := ⟨in_wsL_law_r9 _ (List.mem_of_getElem? (i := 21) rfl), good_of_word (by decide +kernel)⟩
theorem wd_235 : GW (.instanceMethod yX9_floor) := ⟨in_wsL_law_r9 _ (List.mem_of_getElem? (i := 22) rfl), good_of_word (by decide +kernel)⟩
theorem wd_236 : GW (.selects RX9 yX9_floor yX9_floor) := ⟨in_wsL_law_r9 _ (List.mem_of_getElem? (i := 23) rfl), good_of_word (by decide +kernel)⟩
theorem gq_X9_floor : GoodIn lw_tbl (wsV RL 23 RX9 yX9_floor wsX9_floor) := goodIn_app (gi_cons wd_234 (gi_cons wd_235 (gi_cons wd_236 (gi_cons wd_82 gi_nil)))) gr_wsX9_floor
theorem wd_237 : GW (.code yX10_floor cX10_floor 4 (some .int)) := ⟨in_wsL_law_r11 _ (List.mem_of_getElem? (i := 8) rfl), good_of_word (by decide +kernel)⟩
theorem wd_238 : GW (.code yX10_pieces cX10_pieces 6 (some .int)) := ⟨in_wsL_law_r11 _ (List.mem_of_getElem? (i := 15) rfl), good_of_word (by decide +kernel)⟩
theorem wd_239 : GW (.selects RX10 yX10_pieces yX10_pieces) := ⟨in_wsL_law_r11 _ (List.mem_of_getElem? (i := 14) rfl), good_of_word (by decide +kernel)⟩
theorem wd_240 : GW (.instanceMethod yX10_pieces) := ⟨in_wsL_law_r11 _ (List.mem_of_getElem? (i := 13) rfl), good_of_word (by decide +kernel)⟩
theorem wd_241 : GW (.methodLink RX10 164 yX10_pieces) := ⟨in_wsL_law_r11 _ (List.mem_of_getElem? (i := 12) rfl), good_of_word (by decide +kernel)⟩
theorem wd_242 : GW (.code yX10_isDark cX10_isDark 2 (some .boolean)) := ⟨in_wsL_law_r11 _ (List.mem_of_getElem? (i := 11) rfl), good_of_word (by decide +kernel)⟩
theorem wd_243 : GW (.static yX10_isDark) := ⟨in_wsL_law_r11 _ (List.mem_of_getElem? (i := 10) rfl), good_of_word (by decide +kernel)⟩
theorem wd_244 : GW (.methodLink RX10 168 yX10_isDark) := ⟨in_wsL_law_r11 _ (List.mem_of_getElem? (i := 9) rfl), good_of_word (by decide +kernel)⟩
set_option maxRecDepth 20000 in
theorem gr_wsX10_floor_r1 : GoodIn lw_tbl wsX10_floor_r1 := gi_cons wd_146 (gi_cons wd_145 (gi_cons wd_142 (gi_cons wd_141 (gi_cons wd_140 (gi_cons wd_139 (gi_cons wd_138 (gi_cons wd_137 (gi_cons wd_136 (gi_cons wd_135 (gi_cons wd_134 (gi_cons wd_148 (gi_cons wd_147 (gi_cons wd_181 (gi_cons wd_244 (gi_cons wd_243 (gi_cons wd_242 (gi_cons wd_172 (gi_cons wd_171 (gi_cons wd_170 (gi_cons wd_241 (gi_cons wd_240 (gi_cons wd_239 (gi_cons wd_238 (gi_nil))))))))))))))))))))))))
theorem wd_245 : GW (.code yX10_isGlued cX10_isGlued 2 (some .boolean)) := ⟨in_wsL_law_r12 _ (List.mem_of_getElem? (i := 10) rfl), good_of_word (by decide +kernel)⟩
theorem wd_246 : GW (.selects RX10 yX10_isGlued yX10_isGlued) := ⟨in_wsL_law_r12 _ (List.mem_of_getElem? (i := 9) rfl), good_of_word (by decide +kernel)⟩
theorem wd_247 : GW (.instanceMethod yX10_isGlued) := ⟨in_wsL_law_r12 _ (List.mem_of_getElem? (i := 8) rfl), good_of_word (by decide +kernel)⟩
theorem wd_248 : GW (.methodLink RX10 157 yX10_isGlued) := ⟨in_wsL_law_r12 _ (List.mem_of_getElem? (i := 7) rfl), good_of_word (by decide +kernel)⟩
theorem wd_249 : GW (.code yX10_gluedMany cX10_gluedMany 3 (some .int)) := ⟨in_wsL_law_r12 _ (List.mem_of_getElem? (i := 6) rfl), good_of_word (by decide +kernel)⟩
theorem wd_250 : GW (.selects RX10 yX10_gluedMany yX10_gluedMany) := ⟨in_wsL_law_r12 _ (List.mem_of_getElem? (i := 5) rfl), good_of_word (by decide +kernel)⟩
theorem wd_251 : GW (.instanceMethod yX10_gluedMany) := ⟨in_wsL_law_r12 _ (List.mem_of_getElem? (i := 4) rfl), good_of_word (by decide +kernel)⟩
theorem wd_252 : GW (.methodLink RX10 160 yX10_gluedMany) := ⟨in_wsL_law_r12 _ (List.mem_of_getElem? (i := 3) rfl), good_of_word (by decide +kernel)⟩
theorem wd_253 : GW (.code yX10_isWhole cX10_isWhole 1 (some .boolean)) := ⟨in_wsL_law_r12 _ (List.mem_of_getElem? (i := 2) rfl), good_of_word (by decide +kernel)⟩
theorem wd_254 : GW (.selects RX10 yX10_isWhole yX10_isWhole) := ⟨in_wsL_law_r12 _ (List.mem_of_getElem? (i := 1) rfl), good_of_word (by decide +kernel)⟩
theorem wd_255 : GW (.instanceMethod yX10_isWhole) := ⟨in_wsL_law_r12 _ (List.mem_of_getElem? (i := 0) rfl), good_of_word (by decide +kernel)⟩
theorem wd_256 : GW (.methodLink RX10 172 yX10_isWhole) := ⟨in_wsL_law_r11 _ (List.mem_of_getElem? (i := 23) rfl), good_of_word (by decide +kernel)⟩
theorem wd_257 : GW (.code yX10_isBesideMet cX10_isBesideMet 4 (some .boolean)) := ⟨in_wsL_law_r11 _ (List.mem_of_getElem? (i := 22) rfl), good_of_word (by decide +kernel)⟩
theorem wd_258 : GW (.selects RX10 yX10_isBesideMet yX10_isBesideMet) := ⟨in_wsL_law_r11 _ (List.mem_of_getElem? (i := 21) rfl), good_of_word (by decide +kernel)⟩
theorem wd_259 : GW (.instanceMethod yX10_isBesideMet) := ⟨in_wsL_law_r11 _ (List.mem_of_getElem? (i := 20) rfl), good_of_word (by decide +kernel)⟩
theorem wd_260 : GW (.methodLink RX10 153 yX10_isBesideMet) := ⟨in_wsL_law_r11 _ (List.mem_of_getElem? (i := 19) rfl), good_of_word (by decide +kernel)⟩
theorem wd_261 : GW (.code yX10_isOf cX10_isOf 4 (some .boolean)) := ⟨in_wsL_law_r11 _ (List.mem_of_getElem? (i := 18) rfl), good_of_word (by decide +kernel)⟩
theorem wd_262 : GW (.static yX10_isOf) := ⟨in_wsL_law_r11 _ (List.mem_of_getElem? (i := 17) rfl), good_of_word (by decide +kernel)⟩
theorem wd_263 : GW (.methodLink RX10 150 yX10_isOf) := ⟨in_wsL_law_r11 _ (List.mem_of_getElem? (i := 16) rfl), good_of_word (by decide +kernel)⟩
set_option maxRecDepth 20000 in
theorem gr_wsX10_floor_r2 : GoodIn lw_tbl wsX10_floor_r2 := gi_cons wd_51 (gi_cons wd_263 (gi_cons wd_262 (gi_cons wd_261 (gi_cons wd_151 (gi_cons wd_150 (gi_cons wd_149 (gi_cons wd_260 (gi_cons wd_259 (gi_cons wd_258 (gi_cons wd_257 (gi_cons wd_256 (gi_cons wd_255 (gi_cons wd_254 (gi_cons wd_253 (gi_cons wd_252 (gi_cons wd_251 (gi_cons wd_250 (gi_cons wd_249 (gi_cons wd_129 (gi_cons wd_248 (gi_cons wd_247 (gi_cons wd_246 (gi_cons wd_245 (gi_nil))))))))))))))))))))))))
set_option maxRecDepth 20000 in
theorem gr_wsX10_floor_r3 : GoodIn lw_tbl wsX10_floor_r3 := gi_cons wd_161 (gi_cons wd_160 (gi_cons wd_159 (gi_cons wd_158 (gi_cons wd_63 (gi_nil)))))
set_option maxRecDepth 20000 in
theorem gr_wsX10_floor : GoodIn lw_tbl wsX10_floor := gi_cons wd_237 (goodIn_app (goodIn_app (gr_wsX10_floor_r1) (goodIn_app (gr_wsX10_floor_r2) (gr_wsX10_floor_r3))) (gu_X10))
theorem wd_264 : GW (.methodLink RL 26 yX10_floor) := ⟨in_wsL_law_r11 _ (List.mem_of_getElem? (i := 5) rfl), good_of_word (by decide +kernel)⟩
theorem wd_265 : GW (.instanceMethod yX10_floor) := ⟨in_wsL_law_r11 _ (List.mem_of_getElem? (i := 6) rfl), good_of_word (by decide +kernel)⟩
theorem wd_266 : GW (.selects RX10 yX10_floor yX10_floor) := ⟨in_wsL_law_r11 _ (List.mem_of_getElem? (i := 7) rfl), good_of_word (by decide +kernel)⟩
theorem gq_X10_floor : GoodIn lw_tbl (wsV RL 26 RX10 yX10_floor wsX10_floor) := goodIn_app (gi_cons wd_264 (gi_cons wd_265 (gi_cons wd_266 (gi_cons wd_140 gi_nil)))) gr_wsX10_floor
theorem wd_267 : GW (.code yX9_stone cX9_stone 7 (some .int)) := ⟨in_wsL_law_r12 _ (List.mem_of_getElem? (i := 14) rfl), good_of_word (by decide +kernel)⟩
theorem wd_268 : GW (.code yX9_fitsColour cX9_fitsColour 2 (some .boolean)) := ⟨in_wsL_law_r13 _ (List.mem_of_getElem? (i := 0) rfl), good_of_word (by decide +kernel)⟩
theorem wd_269 : GW (.static yX9_fitsColour) := ⟨in_wsL_law_r12 _ (List.mem_of_getElem? (i := 23) rfl), good_of_word (by decide +kernel)⟩
theorem wd_270 : GW (.methodLink RX9 91 yX9_fitsColour) := ⟨in_wsL_law_r12 _ (List.mem_of_getElem? (i := 22) rfl), good_of_word (by decide +kernel)⟩
theorem wd_271 : GW (.code yX9_isKind cX9_isKind 1 (some .boolean)) := ⟨in_wsL_law_r12 _ (List.mem_of_getElem? (i := 21) rfl), good_of_word (by decide +kernel)⟩
theorem wd_272 : GW (.static yX9_isKind) := ⟨in_wsL_law_r12 _ (List.mem_of_getElem? (i := 20) rfl), good_of_word (by decide +kernel)⟩
theorem wd_273 : GW (.methodLink RX9 88 yX9_isKind) := ⟨in_wsL_law_r12 _ (List.mem_of_getElem? (i := 19) rfl), good_of_word (by decide +kernel)⟩
theorem wd_274 : GW (.constant RX9 129 (-100005)) := ⟨in_wsL_law_r12 _ (List.mem_of_getElem? (i := 18) rfl), good_of_word (by decide +kernel)⟩
theorem wd_275 : GW (.instantiable RX7 7) := ⟨in_wsL_law_r12 _ (List.mem_of_getElem? (i := 17) rfl), good_of_word (by decide +kernel)⟩
theorem wd_276 : GW (.classLink RX9 104 RX7) := ⟨in_wsL_law_r12 _ (List.mem_of_getElem? (i := 16) rfl), good_of_word (by decide +kernel)⟩
theorem wd_277 : GW (.constant RX9 99 (-100003)) := ⟨in_wsL_law_r12 _ (List.mem_of_getElem? (i := 15) rfl), good_of_word (by decide +kernel)⟩
set_option maxRecDepth 20000 in
theorem gr_wsX9_stone_r1 : GoodIn lw_tbl wsX9_stone_r1 := gi_cons wd_89 (gi_cons wd_277 (gi_cons wd_276 (gi_cons wd_275 (gi_cons wd_220 (gi_cons wd_75 (gi_cons wd_74 (gi_cons wd_73 (gi_cons wd_88 (gi_cons wd_70 (gi_cons wd_274 (gi_cons wd_69 (gi_cons wd_273 (gi_cons wd_272 (gi_cons wd_82 (gi_cons wd_271 (gi_cons wd_194 (gi_cons wd_193 (gi_cons wd_66 (gi_cons wd_192 (gi_cons wd_270 (gi_cons wd_269 (gi_cons wd_268 (gi_cons wd_85 (gi_nil))))))))))))))))))))))))
theorem wd_278 : GW (.fieldLink RX7 9 "ParquetLayer$Stone" "below" "LParquetLayer$Stone;") := ⟨in_wsL_law_r13 _ (List.mem_of_getElem? (i := 17) rfl), good_of_word (by decide +kernel)⟩
theorem wd_279 : GW (.methodLink RX7 3 objectInit) := ⟨in_wsL_law_r13 _ (List.mem_of_getElem? (i := 16) rfl), good_of_word (by decide +kernel)⟩
theorem wd_280 : GW (.code yX7_init cX7_init 7 none) := ⟨in_wsL_law_r13 _ (List.mem_of_getElem? (i := 15) rfl), good_of_word (by decide +kernel)⟩
theorem wd_281 : GW (.instanceMethod yX7_init) := ⟨in_wsL_law_r13 _ (List.mem_of_getElem? (i := 14) rfl), good_of_word (by decide +kernel)⟩
theorem wd_282 : GW (.methodLink RX9 110 yX7_init) := ⟨in_wsL_law_r13 _ (List.mem_of_getElem? (i := 13) rfl), good_of_word (by decide +kernel)⟩
theorem wd_283 : GW (.fieldLink RX9 152 "ParquetLayer$Stone" "number" "I") := ⟨in_wsL_law_r13 _ (List.mem_of_getElem? (i := 12) rfl), good_of_word (by decide +kernel)⟩
theorem wd_284 : GW (.code yX9_stoneCount cX9_stoneCount 1 (some .int)) := ⟨in_wsL_law_r13 _ (List.mem_of_getElem? (i := 11) rfl), good_of_word (by decide +kernel)⟩
theorem wd_285 : GW (.selects RX9 yX9_stoneCount yX9_stoneCount) := ⟨in_wsL_law_r13 _ (List.mem_of_getElem? (i := 10) rfl), good_of_word (by decide +kernel)⟩
theorem wd_286 : GW (.instanceMethod yX9_stoneCount) := ⟨in_wsL_law_r13 _ (List.mem_of_getElem? (i := 9) rfl), good_of_word (by decide +kernel)⟩
theorem wd_287 : GW (.methodLink RX9 100 yX9_stoneCount) := ⟨in_wsL_law_r13 _ (List.mem_of_getElem? (i := 8) rfl), good_of_word (by decide +kernel)⟩
theorem wd_288 : GW (.code yX1_place cX1_place 2 (some .long)) := ⟨in_wsL_law_r13 _ (List.mem_of_getElem? (i := 7) rfl), good_of_word (by decide +kernel)⟩
theorem wd_289 : GW (.static yX1_place) := ⟨in_wsL_law_r13 _ (List.mem_of_getElem? (i := 6) rfl), good_of_word (by decide +kernel)⟩
theorem wd_290 : GW (.methodLink RX9 182 yX1_place) := ⟨in_wsL_law_r13 _ (List.mem_of_getElem? (i := 5) rfl), good_of_word (by decide +kernel)⟩
theorem wd_291 : GW (.code yX9_isPlace cX9_isPlace 5 (some .boolean)) := ⟨in_wsL_law_r13 _ (List.mem_of_getElem? (i := 4) rfl), good_of_word (by decide +kernel)⟩
theorem wd_292 : GW (.selects RX9 yX9_isPlace yX9_isPlace) := ⟨in_wsL_law_r13 _ (List.mem_of_getElem? (i := 3) rfl), good_of_word (by decide +kernel)⟩
theorem wd_293 : GW (.instanceMethod yX9_isPlace) := ⟨in_wsL_law_r13 _ (List.mem_of_getElem? (i := 2) rfl), good_of_word (by decide +kernel)⟩
theorem wd_294 : GW (.methodLink RX9 95 yX9_isPlace) := ⟨in_wsL_law_r13 _ (List.mem_of_getElem? (i := 1) rfl), good_of_word (by decide +kernel)⟩
set_option maxRecDepth 20000 in
theorem gr_wsX9_stone_r2 : GoodIn lw_tbl wsX9_stone_r2 := gi_cons wd_84 (gi_cons wd_83 (gi_cons wd_81 (gi_cons wd_80 (gi_cons wd_294 (gi_cons wd_293 (gi_cons wd_292 (gi_cons wd_291 (gi_cons wd_86 (gi_cons wd_290 (gi_cons wd_289 (gi_cons wd_288 (gi_cons wd_287 (gi_cons wd_286 (gi_cons wd_285 (gi_cons wd_284 (gi_cons wd_283 (gi_cons wd_282 (gi_cons wd_281 (gi_cons wd_280 (gi_cons wd_279 (gi_cons wd_23 (gi_cons wd_22 (gi_cons wd_278 (gi_nil))))))))))))))))))))))))
theorem wd_295 : GW (.methodLink RX7 32 yX1_place) := ⟨in_wsL_law_r13 _ (List.mem_of_getElem? (i := 23) rfl), good_of_word (by decide +kernel)⟩
theorem wd_296 : GW (.fieldLink RX7 38 "ParquetLayer$Stone" "cover" "J") := ⟨in_wsL_law_r13 _ (List.mem_of_getElem? (i := 22) rfl), good_of_word (by decide +kernel)⟩
theorem wd_297 : GW (.fieldLink RX7 29 "ParquetLayer$Stone" "colour" "I") := ⟨in_wsL_law_r13 _ (List.mem_of_getElem? (i := 21) rfl), good_of_word (by decide +kernel)⟩
theorem wd_298 : GW (.fieldLink RX7 25 "ParquetLayer$Stone" "across" "Z") := ⟨in_wsL_law_r13 _ (List.mem_of_getElem? (i := 20) rfl), good_of_word (by decide +kernel)⟩
theorem wd_299 : GW (.fieldLink RX7 22 "ParquetLayer$Stone" "field" "I") := ⟨in_wsL_law_r13 _ (List.mem_of_getElem? (i := 19) rfl), good_of_word (by decide +kernel)⟩
theorem wd_300 : GW (.fieldLink RX7 15 "ParquetLayer$Stone" "number" "I") := ⟨in_wsL_law_r13 _ (List.mem_of_getElem? (i := 18) rfl), good_of_word (by decide +kernel)⟩
set_option maxRecDepth 20000 in
theorem gr_wsX9_stone_r3 : GoodIn lw_tbl wsX9_stone_r3 := gi_cons wd_300 (gi_cons wd_218 (gi_cons wd_299 (gi_cons wd_298 (gi_cons wd_297 (gi_cons wd_296 (gi_cons wd_295 (gi_cons wd_223 (gi_cons wd_222 (gi_cons wd_221 (gi_cons wd_219 (gi_cons wd_217 (gi_cons wd_216 (gi_cons wd_227 (gi_cons wd_226 (gi_cons wd_225 (gi_cons wd_224 (gi_cons wd_72 (gi_cons wd_68 (gi_cons wd_67 (gi_cons wd_109 (gi_cons wd_108 (gi_cons wd_107 (gi_cons wd_106 (gi_nil))))))))))))))))))))))))
set_option maxRecDepth 20000 in
theorem gr_wsX9_stone_r4 : GoodIn lw_tbl wsX9_stone_r4 := gi_cons wd_105 (gi_cons wd_104 (gi_cons wd_103 (gi_cons wd_102 (gi_cons wd_101 (gi_cons wd_100 (gi_cons wd_99 (gi_cons wd_98 (gi_cons wd_97 (gi_cons wd_18 (gi_cons wd_19 (gi_cons wd_96 (gi_cons wd_95 (gi_cons wd_94 (gi_cons wd_93 (gi_cons wd_92 (gi_cons wd_91 (gi_cons wd_90 (gi_cons wd_118 (gi_cons wd_117 (gi_nil))))))))))))))))))))
set_option maxRecDepth 20000 in
theorem gr_wsX9_stone : GoodIn lw_tbl wsX9_stone := gi_cons wd_267 (goodIn_app (goodIn_app (goodIn_app (goodIn_app (gr_wsX9_stone_r1) (goodIn_app (gr_wsX9_stone_r2) (goodIn_app (gr_wsX9_stone_r3) (gr_wsX9_stone_r4)))) (gu_X7)) (gu_X9)) (gu_X5))
theorem wd_301 : GW (.methodLink RL 27 yX9_stone) := ⟨in_wsL_law_r12 _ (List.mem_of_getElem? (i := 11) rfl), good_of_word (by decide +kernel)⟩
theorem wd_302 : GW (.instanceMethod yX9_stone) := ⟨in_wsL_law_r12 _ (List.mem_of_getElem? (i := 12) rfl), good_of_word (by decide +kernel)⟩
theorem wd_303 : GW (.selects RX9 yX9_stone yX9_stone) := ⟨in_wsL_law_r12 _ (List.mem_of_getElem? (i := 13) rfl), good_of_word (by decide +kernel)⟩
theorem gq_X9_stone : GoodIn lw_tbl (wsV RL 27 RX9 yX9_stone wsX9_stone) := goodIn_app (gi_cons wd_301 (gi_cons wd_302 (gi_cons wd_303 (gi_cons wd_82 gi_nil)))) gr_wsX9_stone
theorem wd_304 : GW (.code yX10_stone cX10_stone 10 (some .int)) := ⟨in_wsL_law_r14 _ (List.mem_of_getElem? (i := 3) rfl), good_of_word (by decide +kernel)⟩
theorem wd_305 : GW (.constant RX10 177 (-100005)) := ⟨in_wsL_law_r14 _ (List.mem_of_getElem? (i := 5) rfl), good_of_word (by decide +kernel)⟩
theorem wd_306 : GW (.constant RX10 176 (-100003)) := ⟨in_wsL_law_r14 _ (List.mem_of_getElem? (i := 4) rfl), good_of_word (by decide +kernel)⟩
set_option maxRecDepth 20000 in
theorem gr_wsX10_stone_r1 : GoodIn lw_tbl wsX10_stone_r1 := gi_cons wd_146 (gi_cons wd_145 (gi_cons wd_143 (gi_cons wd_306 (gi_cons wd_129 (gi_cons wd_128 (gi_cons wd_127 (gi_cons wd_305 (gi_cons wd_63 (gi_cons wd_142 (gi_cons wd_141 (gi_cons wd_140 (gi_cons wd_139 (gi_cons wd_201 (gi_cons wd_200 (gi_cons wd_199 (gi_cons wd_138 (gi_cons wd_137 (gi_cons wd_136 (gi_cons wd_135 (gi_cons wd_134 (gi_cons wd_165 (gi_cons wd_164 (gi_cons wd_163 (gi_nil))))))))))))))))))))))))
set_option maxRecDepth 20000 in
theorem gr_wsX10_stone_r2 : GoodIn lw_tbl wsX10_stone_r2 := gi_cons wd_162 (gi_cons wd_248 (gi_cons wd_247 (gi_cons wd_246 (gi_cons wd_245 (gi_cons wd_161 (gi_cons wd_160 (gi_cons wd_159 (gi_cons wd_158 (gi_cons wd_126 (gi_cons wd_125 (gi_cons wd_124 (gi_cons wd_123 (gi_cons wd_169 (gi_cons wd_168 (gi_cons wd_167 (gi_cons wd_166 (gi_cons wd_157 (gi_cons wd_156 (gi_cons wd_155 (gi_cons wd_154 (gi_cons wd_153 (gi_cons wd_152 (gi_cons wd_151 (gi_nil))))))))))))))))))))))))
set_option maxRecDepth 20000 in
theorem gr_wsX10_stone_r3 : GoodIn lw_tbl wsX10_stone_r3 := gi_cons wd_150 (gi_cons wd_149 (gi_cons wd_148 (gi_cons wd_147 (gi_cons wd_181 (gi_cons wd_180 (gi_cons wd_179 (gi_cons wd_178 (gi_cons wd_177 (gi_cons wd_176 (gi_cons wd_61 (gi_cons wd_60 (gi_cons wd_57 (gi_cons wd_56 (gi_cons wd_55 (gi_cons wd_59 (gi_cons wd_175 (gi_cons wd_174 (gi_cons wd_173 (gi_nil)))))))))))))))))))
set_option maxRecDepth 20000 in
theorem gr_wsX10_stone : GoodIn lw_tbl wsX10_stone := gi_cons wd_304 (goodIn_app (goodIn_app (gr_wsX10_stone_r1) (goodIn_app (gr_wsX10_stone_r2) (gr_wsX10_stone_r3))) (gu_X10))
theorem wd_307 : GW (.methodLink RL 31 yX10_stone) := ⟨in_wsL_law_r14 _ (List.mem_of_getElem? (i := 0) rfl), good_of_word (by decide +kernel)⟩
theorem wd_308 : GW (.instanceMethod yX10_stone) := ⟨in_wsL_law_r14 _ (List.mem_of_getElem? (i := 1) rfl), good_of_word (by decide +kernel)⟩
theorem wd_309 : GW (.selects RX10 yX10_stone yX10_stone) := ⟨in_wsL_law_r14 _ (List.mem_of_getElem? (i := 2) rfl), good_of_word (by decide +kernel)⟩
theorem gq_X10_stone : GoodIn lw_tbl (wsV RL 31 RX10 yX10_stone wsX10_stone) := goodIn_app (gi_cons wd_307 (gi_cons wd_308 (gi_cons wd_309 (gi_cons wd_140 gi_nil)))) gr_wsX10_stone
theorem wd_310 : GW (.code yX9_loose cX9_loose 1 (some .int)) := ⟨in_wsL_law_r14 _ (List.mem_of_getElem? (i := 9) rfl), good_of_word (by decide +kernel)⟩
theorem wd_311 : GW (.constant RX9 137 (-100006)) := ⟨in_wsL_law_r14 _ (List.mem_of_getElem? (i := 10) rfl), good_of_word (by decide +kernel)⟩
set_option maxRecDepth 20000 in
theorem gr_wsX9_loose_r1 : GoodIn lw_tbl wsX9_loose_r1 := gi_cons wd_75 (gi_cons wd_311 (gi_cons wd_72 (gi_cons wd_69 (gi_cons wd_85 (gi_cons wd_84 (gi_cons wd_83 (gi_cons wd_82 (gi_cons wd_81 (gi_cons wd_80 (gi_cons wd_101 (gi_cons wd_100 (gi_cons wd_99 (gi_cons wd_98 (gi_cons wd_97 (gi_cons wd_18 (gi_cons wd_19 (gi_cons wd_96 (gi_cons wd_95 (gi_cons wd_88 (gi_cons wd_94 (gi_cons wd_93 (gi_cons wd_92 (gi_cons wd_91 (gi_nil))))))))))))))))))))))))
set_option maxRecDepth 20000 in
theorem gr_wsX9_loose_r2 : GoodIn lw_tbl wsX9_loose_r2 := gi_cons wd_23 (gi_cons wd_22 (gi_cons wd_90 (gi_cons wd_118 (gi_cons wd_117 (gi_cons wd_287 (gi_cons wd_286 (gi_cons wd_285 (gi_cons wd_284 (gi_cons wd_283 (gi_nil))))))))))
set_option maxRecDepth 20000 in
theorem gr_wsX9_loose : GoodIn lw_tbl wsX9_loose := gi_cons wd_310 (goodIn_app (goodIn_app (goodIn_app (goodIn_app (gr_wsX9_loose_r1) (gr_wsX9_loose_r2)) (gu_X9)) (gu_X7)) (gu_X5))
theorem wd_312 : GW (.methodLink RL 32 yX9_loose) := ⟨in_wsL_law_r14 _ (List.mem_of_getElem? (i := 6) rfl), good_of_word (by decide +kernel)⟩
theorem wd_313 : GW (.instanceMethod yX9_loose) := ⟨in_wsL_law_r14 _ (List.mem_of_getElem? (i := 7) rfl), good_of_word (by decide +kernel)⟩
theorem wd_314 : GW (.selects RX9 yX9_loose yX9_loose) := ⟨in_wsL_law_r14 _ (List.mem_of_getElem? (i := 8) rfl), good_of_word (by decide +kernel)⟩
theorem gq_X9_loose : GoodIn lw_tbl (wsV RL 32 RX9 yX9_loose wsX9_loose) := goodIn_app (gi_cons wd_312 (gi_cons wd_313 (gi_cons wd_314 (gi_cons wd_82 gi_nil)))) gr_wsX9_loose
theorem wd_315 : GW (.code yX10_loose cX10_loose 1 (some .int)) := ⟨in_wsL_law_r14 _ (List.mem_of_getElem? (i := 14) rfl), good_of_word (by decide +kernel)⟩
theorem wd_316 : GW (.constant RX10 98 (-100006)) := ⟨in_wsL_law_r14 _ (List.mem_of_getElem? (i := 15) rfl), good_of_word (by decide +kernel)⟩
set_option maxRecDepth 20000 in
theorem gr_wsX10_loose : GoodIn lw_tbl wsX10_loose := gi_cons wd_315 (goodIn_app (gi_cons wd_129 (gi_cons wd_316 (gi_cons wd_138 (gi_cons wd_137 (gi_cons wd_136 (gi_cons wd_140 (gi_cons wd_135 (gi_cons wd_134 (gi_cons wd_180 (gi_cons wd_179 (gi_cons wd_178 (gi_cons wd_177 (gi_cons wd_176 (gi_cons wd_61 (gi_cons wd_60 (gi_cons wd_57 (gi_cons wd_56 (gi_cons wd_55 (gi_cons wd_59 (gi_cons wd_145 (gi_cons wd_175 (gi_cons wd_174 (gi_cons wd_173 (gi_cons wd_63 (gi_nil))))))))))))))))))))))))) (gu_X10))
theorem wd_317 : GW (.methodLink RL 36 yX10_loose) := ⟨in_wsL_law_r14 _ (List.mem_of_getElem? (i := 11) rfl), good_of_word (by decide +kernel)⟩
theorem wd_318 : GW (.instanceMethod yX10_loose) := ⟨in_wsL_law_r14 _ (List.mem_of_getElem? (i := 12) rfl), good_of_word (by decide +kernel)⟩
theorem wd_319 : GW (.selects RX10 yX10_loose yX10_loose) := ⟨in_wsL_law_r14 _ (List.mem_of_getElem? (i := 13) rfl), good_of_word (by decide +kernel)⟩
theorem gq_X10_loose : GoodIn lw_tbl (wsV RL 36 RX10 yX10_loose wsX10_loose) := goodIn_app (gi_cons wd_317 (gi_cons wd_318 (gi_cons wd_319 (gi_cons wd_140 gi_nil)))) gr_wsX10_loose
theorem wd_320 : GW (.code yX9_as cX9_as 4 (some .int)) := ⟨in_wsL_law_r14 _ (List.mem_of_getElem? (i := 19) rfl), good_of_word (by decide +kernel)⟩
theorem wd_321 : GW (.methodLink RX9 149 yX9_isUnder) := ⟨in_wsL_law_r15 _ (List.mem_of_getElem? (i := 0) rfl), good_of_word (by decide +kernel)⟩
theorem wd_322 : GW (.code yX9_stoneOf cX9_stoneOf 3 (some (.object "ParquetLayer$Stone"))) := ⟨in_wsL_law_r14 _ (List.mem_of_getElem? (i := 23) rfl), good_of_word (by decide +kernel)⟩
theorem wd_323 : GW (.selects RX9 yX9_stoneOf yX9_stoneOf) := ⟨in_wsL_law_r14 _ (List.mem_of_getElem? (i := 22) rfl), good_of_word (by decide +kernel)⟩
theorem wd_324 : GW (.instanceMethod yX9_stoneOf) := ⟨in_wsL_law_r14 _ (List.mem_of_getElem? (i := 21) rfl), good_of_word (by decide +kernel)⟩
theorem wd_325 : GW (.methodLink RX9 141 yX9_stoneOf) := ⟨in_wsL_law_r14 _ (List.mem_of_getElem? (i := 20) rfl), good_of_word (by decide +kernel)⟩
set_option maxRecDepth 20000 in
theorem gr_wsX9_as : GoodIn lw_tbl wsX9_as := gi_cons wd_320 (goodIn_app (goodIn_app (gi_cons wd_89 (gi_cons wd_71 (gi_cons wd_70 (gi_cons wd_283 (gi_cons wd_325 (gi_cons wd_324 (gi_cons wd_323 (gi_cons wd_82 (gi_cons wd_322 (gi_cons wd_75 (gi_cons wd_72 (gi_cons wd_273 (gi_cons wd_272 (gi_cons wd_271 (gi_cons wd_85 (gi_cons wd_84 (gi_cons wd_83 (gi_cons wd_81 (gi_cons wd_80 (gi_cons wd_321 (gi_cons wd_217 (gi_cons wd_216 (gi_nil))))))))))))))))))))))) (gu_X7)) (gu_X9))
theorem wd_326 : GW (.methodLink RL 37 yX9_as) := ⟨in_wsL_law_r14 _ (List.mem_of_getElem? (i := 16) rfl), good_of_word (by decide +kernel)⟩
theorem wd_327 : GW (.instanceMethod yX9_as) := ⟨in_wsL_law_r14 _ (List.mem_of_getElem? (i := 17) rfl), good_of_word (by decide +kernel)⟩
theorem wd_328 : GW (.selects RX9 yX9_as yX9_as) := ⟨in_wsL_law_r14 _ (List.mem_of_getElem? (i := 18) rfl), good_of_word (by decide +kernel)⟩
theorem gq_X9_as : GoodIn lw_tbl (wsV RL 37 RX9 yX9_as wsX9_as) := goodIn_app (gi_cons wd_326 (gi_cons wd_327 (gi_cons wd_328 (gi_cons wd_82 gi_nil)))) gr_wsX9_as
theorem wd_329 : GW (.code yX10_as cX10_as 4 (some .int)) := ⟨in_wsL_law_r15 _ (List.mem_of_getElem? (i := 4) rfl), good_of_word (by decide +kernel)⟩
theorem wd_330 : GW (.code yX10_isStone cX10_isStone 2 (some .boolean)) := ⟨in_wsL_law_r15 _ (List.mem_of_getElem? (i := 8) rfl), good_of_word (by decide +kernel)⟩
theorem wd_331 : GW (.selects RX10 yX10_isStone yX10_isStone) := ⟨in_wsL_law_r15 _ (List.mem_of_getElem? (i := 7) rfl), good_of_word (by decide +kernel)⟩
theorem wd_332 : GW (.instanceMethod yX10_isStone) := ⟨in_wsL_law_r15 _ (List.mem_of_getElem? (i := 6) rfl), good_of_word (by decide +kernel)⟩
theorem wd_333 : GW (.methodLink RX10 178 yX10_isStone) := ⟨in_wsL_law_r15 _ (List.mem_of_getElem? (i := 5) rfl), good_of_word (by decide +kernel)⟩
set_option maxRecDepth 20000 in
theorem gr_wsX10_as : GoodIn lw_tbl wsX10_as := gi_cons wd_329 (goodIn_app (gi_cons wd_146 (gi_cons wd_127 (gi_cons wd_333 (gi_cons wd_332 (gi_cons wd_331 (gi_cons wd_140 (gi_cons wd_330 (gi_cons wd_129 (gi_cons wd_142 (gi_cons wd_141 (gi_cons wd_139 (gi_cons wd_138 (gi_cons wd_137 (gi_cons wd_136 (gi_cons wd_135 (gi_cons wd_134 (gi_cons wd_161 (gi_cons wd_160 (gi_cons wd_159 (gi_cons wd_158 (gi_cons wd_63 (gi_nil)))))))))))))))))))))) (gu_X10))
theorem wd_334 : GW (.methodLink RL 40 yX10_as) := ⟨in_wsL_law_r15 _ (List.mem_of_getElem? (i := 1) rfl), good_of_word (by decide +kernel)⟩
theorem wd_335 : GW (.instanceMethod yX10_as) := ⟨in_wsL_law_r15 _ (List.mem_of_getElem? (i := 2) rfl), good_of_word (by decide +kernel)⟩
theorem wd_336 : GW (.selects RX10 yX10_as yX10_as) := ⟨in_wsL_law_r15 _ (List.mem_of_getElem? (i := 3) rfl), good_of_word (by decide +kernel)⟩
theorem gq_X10_as : GoodIn lw_tbl (wsV RL 40 RX10 yX10_as wsX10_as) := goodIn_app (gi_cons wd_334 (gi_cons wd_335 (gi_cons wd_336 (gi_cons wd_140 gi_nil)))) gr_wsX10_as
theorem wd_337 : GW (.code yX9_told cX9_told 4 (some .int)) := ⟨in_wsL_law_r15 _ (List.mem_of_getElem? (i := 12) rfl), good_of_word (by decide +kernel)⟩
theorem wd_338 : GW (.instanceMethod yX3_hasStone) := ⟨in_wsL_law_r15 _ (List.mem_of_getElem? (i := 17) rfl), good_of_word (by decide +kernel)⟩
theorem wd_339 : GW (.methodLink RX9 165 yX3_hasStone) := ⟨in_wsL_law_r15 _ (List.mem_of_getElem? (i := 16) rfl), good_of_word (by decide +kernel)⟩
theorem wd_340 : GW (.fieldLink RX9 162 "ParquetLayer$Stone" "colour" "I") := ⟨in_wsL_law_r15 _ (List.mem_of_getElem? (i := 15) rfl), good_of_word (by decide +kernel)⟩
theorem wd_341 : GW (.fieldLink RX9 158 "ParquetLayer$Stone" "across" "Z") := ⟨in_wsL_law_r15 _ (List.mem_of_getElem? (i := 14) rfl), good_of_word (by decide +kernel)⟩
theorem wd_342 : GW (.fieldLink RX9 155 "ParquetLayer$Stone" "field" "I") := ⟨in_wsL_law_r15 _ (List.mem_of_getElem? (i := 13) rfl), good_of_word (by decide +kernel)⟩
set_option maxRecDepth 20000 in
theorem gr_wsX9_told_r1 : GoodIn lw_tbl wsX9_told_r1 := gi_cons wd_89 (gi_cons wd_71 (gi_cons wd_342 (gi_cons wd_341 (gi_cons wd_340 (gi_cons wd_69 (gi_cons wd_325 (gi_cons wd_324 (gi_cons wd_323 (gi_cons wd_82 (gi_cons wd_322 (gi_cons wd_75 (gi_cons wd_283 (gi_cons wd_72 (gi_cons wd_85 (gi_cons wd_84 (gi_cons wd_83 (gi_cons wd_81 (gi_cons wd_80 (gi_cons wd_188 (gi_cons wd_187 (gi_cons wd_186 (gi_cons wd_339 (gi_cons wd_338 (gi_nil))))))))))))))))))))))))
theorem wd_343 : GW (.methodLink RX3 20 yX1_holds) := ⟨in_wsL_law_r15 _ (List.mem_of_getElem? (i := 23) rfl), good_of_word (by decide +kernel)⟩
theorem wd_344 : GW (.fieldLink RX3 13 "ParquetLayer$Laying" "along" "J") := ⟨in_wsL_law_r15 _ (List.mem_of_getElem? (i := 22) rfl), good_of_word (by decide +kernel)⟩
theorem wd_345 : GW (.fieldLink RX3 17 "ParquetLayer$Laying" "across" "J") := ⟨in_wsL_law_r15 _ (List.mem_of_getElem? (i := 21) rfl), good_of_word (by decide +kernel)⟩
theorem wd_346 : GW (.code yX3_hasStone cX3_hasStone 3 (some .boolean)) := ⟨in_wsL_law_r15 _ (List.mem_of_getElem? (i := 20) rfl), good_of_word (by decide +kernel)⟩
theorem wd_347 : GW (.initialized RX3) := ⟨in_wsL_law_r15 _ (List.mem_of_getElem? (i := 19) rfl), good_of_word (by decide +kernel)⟩
theorem wd_348 : GW (.selects RX3 yX3_hasStone yX3_hasStone) := ⟨in_wsL_law_r15 _ (List.mem_of_getElem? (i := 18) rfl), good_of_word (by decide +kernel)⟩
set_option maxRecDepth 20000 in
theorem gr_wsX9_told_r2 : GoodIn lw_tbl wsX9_told_r2 := gi_cons wd_348 (gi_cons wd_347 (gi_cons wd_346 (gi_cons wd_345 (gi_cons wd_344 (gi_cons wd_343 (gi_cons wd_190 (gi_cons wd_66 (gi_cons wd_189 (gi_nil)))))))))
set_option maxRecDepth 20000 in
theorem gr_wsX9_told : GoodIn lw_tbl wsX9_told := gi_cons wd_337 (goodIn_app (goodIn_app (goodIn_app (goodIn_app (gr_wsX9_told_r1) (gr_wsX9_told_r2)) (gu_X7)) (gu_X9)) (gu_X3))
theorem wd_349 : GW (.methodLink RL 41 yX9_told) := ⟨in_wsL_law_r15 _ (List.mem_of_getElem? (i := 9) rfl), good_of_word (by decide +kernel)⟩
theorem wd_350 : GW (.instanceMethod yX9_told) := ⟨in_wsL_law_r15 _ (List.mem_of_getElem? (i := 10) rfl), good_of_word (by decide +kernel)⟩
theorem wd_351 : GW (.selects RX9 yX9_told yX9_told) := ⟨in_wsL_law_r15 _ (List.mem_of_getElem? (i := 11) rfl), good_of_word (by decide +kernel)⟩
theorem gq_X9_told : GoodIn lw_tbl (wsV RL 41 RX9 yX9_told wsX9_told) := goodIn_app (gi_cons wd_349 (gi_cons wd_350 (gi_cons wd_351 (gi_cons wd_82 gi_nil)))) gr_wsX9_told
theorem wd_352 : GW (.code yX10_told cX10_told 3 (some .int)) := ⟨in_wsL_law_r16 _ (List.mem_of_getElem? (i := 3) rfl), good_of_word (by decide +kernel)⟩
set_option maxRecDepth 20000 in
theorem gr_wsX10_told_r1 : GoodIn lw_tbl wsX10_told_r1 := gi_cons wd_146 (gi_cons wd_63 (gi_cons wd_175 (gi_cons wd_173 (gi_cons wd_174 (gi_cons wd_333 (gi_cons wd_332 (gi_cons wd_331 (gi_cons wd_140 (gi_cons wd_330 (gi_cons wd_129 (gi_cons wd_142 (gi_cons wd_141 (gi_cons wd_139 (gi_cons wd_138 (gi_cons wd_137 (gi_cons wd_136 (gi_cons wd_135 (gi_cons wd_134 (gi_cons wd_161 (gi_cons wd_160 (gi_cons wd_159 (gi_cons wd_158 (gi_cons wd_126 (gi_nil))))))))))))))))))))))))
set_option maxRecDepth 20000 in
theorem gr_wsX10_told_r2 : GoodIn lw_tbl wsX10_told_r2 := gi_cons wd_125 (gi_cons wd_124 (gi_cons wd_123 (gi_cons wd_169 (gi_cons wd_168 (gi_cons wd_167 (gi_cons wd_166 (gi_cons wd_148 (gi_cons wd_147 (gi_cons wd_181 (gi_nil))))))))))
set_option maxRecDepth 20000 in
theorem gr_wsX10_told : GoodIn lw_tbl wsX10_told := gi_cons wd_352 (goodIn_app (goodIn_app (gr_wsX10_told_r1) (gr_wsX10_told_r2)) (gu_X10))
theorem wd_353 : GW (.methodLink RL 44 yX10_told) := ⟨in_wsL_law_r16 _ (List.mem_of_getElem? (i := 0) rfl), good_of_word (by decide +kernel)⟩
theorem wd_354 : GW (.instanceMethod yX10_told) := ⟨in_wsL_law_r16 _ (List.mem_of_getElem? (i := 1) rfl), good_of_word (by decide +kernel)⟩
theorem wd_355 : GW (.selects RX10 yX10_told yX10_told) := ⟨in_wsL_law_r16 _ (List.mem_of_getElem? (i := 2) rfl), good_of_word (by decide +kernel)⟩
theorem gq_X10_told : GoodIn lw_tbl (wsV RL 44 RX10 yX10_told wsX10_told) := goodIn_app (gi_cons wd_353 (gi_cons wd_354 (gi_cons wd_355 (gi_cons wd_140 gi_nil)))) gr_wsX10_told
theorem wd_356 : GW (.code yX9_count cX9_count 1 (some .int)) := ⟨in_wsL_law_r16 _ (List.mem_of_getElem? (i := 7) rfl), good_of_word (by decide +kernel)⟩
theorem wd_357 : GW (.fieldLink RX4 13 "ParquetLayer$Layings" "pair" "[I") := ⟨in_wsL_law_r16 _ (List.mem_of_getElem? (i := 20) rfl), good_of_word (by decide +kernel)⟩
theorem wd_358 : GW (.fieldLink RX4 9 "ParquetLayer$Layings" "ways" "[I") := ⟨in_wsL_law_r16 _ (List.mem_of_getElem? (i := 19) rfl), good_of_word (by decide +kernel)⟩
theorem wd_359 : GW (.methodLink RX4 1 objectInit) := ⟨in_wsL_law_r16 _ (List.mem_of_getElem? (i := 18) rfl), good_of_word (by decide +kernel)⟩
theorem wd_360 : GW (.code yX4_init cX4_init 1 none) := ⟨in_wsL_law_r16 _ (List.mem_of_getElem? (i := 17) rfl), good_of_word (by decide +kernel)⟩
theorem wd_361 : GW (.instanceMethod yX4_init) := ⟨in_wsL_law_r16 _ (List.mem_of_getElem? (i := 16) rfl), good_of_word (by decide +kernel)⟩
theorem wd_362 : GW (.initialized RX4) := ⟨in_wsL_law_r16 _ (List.mem_of_getElem? (i := 15) rfl), good_of_word (by decide +kernel)⟩
theorem wd_363 : GW (.instantiable RX4 4) := ⟨in_wsL_law_r16 _ (List.mem_of_getElem? (i := 14) rfl), good_of_word (by decide +kernel)⟩
theorem wd_364 : GW (.classLink RX9 175 RX4) := ⟨in_wsL_law_r16 _ (List.mem_of_getElem? (i := 13) rfl), good_of_word (by decide +kernel)⟩
theorem wd_365 : GW (.fieldLink RX9 337 "ParquetLayer" "layings" "LParquetLayer$Layings;") := ⟨in_wsL_law_r16 _ (List.mem_of_getElem? (i := 12) rfl), good_of_word (by decide +kernel)⟩
theorem wd_366 : GW (.code yX9_knownLayings cX9_knownLayings 1 (some (.object "ParquetLayer$Layings"))) := ⟨in_wsL_law_r16 _ (List.mem_of_getElem? (i := 11) rfl), good_of_word (by decide +kernel)⟩
theorem wd_367 : GW (.selects RX9 yX9_knownLayings yX9_knownLayings) := ⟨in_wsL_law_r16 _ (List.mem_of_getElem? (i := 10) rfl), good_of_word (by decide +kernel)⟩
theorem wd_368 : GW (.instanceMethod yX9_knownLayings) := ⟨in_wsL_law_r16 _ (List.mem_of_getElem? (i := 9) rfl), good_of_word (by decide +kernel)⟩
theorem wd_369 : GW (.methodLink RX9 170 yX9_knownLayings) := ⟨in_wsL_law_r16 _ (List.mem_of_getElem? (i := 8) rfl), good_of_word (by decide +kernel)⟩
set_option maxRecDepth 20000 in
theorem gr_wsX9_count_r1 : GoodIn lw_tbl wsX9_count_r1 := gi_cons wd_369 (gi_cons wd_368 (gi_cons wd_367 (gi_cons wd_82 (gi_cons wd_366 (gi_cons wd_365 (gi_cons wd_364 (gi_cons wd_363 (gi_cons wd_362 (gi_cons wd_88 (gi_cons wd_86 (gi_cons wd_361 (gi_cons wd_360 (gi_cons wd_359 (gi_cons wd_23 (gi_cons wd_22 (gi_cons wd_42 (gi_cons wd_358 (gi_cons wd_357 (gi_cons wd_227 (gi_cons wd_226 (gi_cons wd_225 (gi_cons wd_224 (gi_cons wd_75 (gi_nil))))))))))))))))))))))))
theorem wd_370 : GW (.methodLink RX4 37 yX1_holds) := ⟨in_wsL_law_r17 _ (List.mem_of_getElem? (i := 9) rfl), good_of_word (by decide +kernel)⟩
theorem wd_371 : GW (.code yX4_alongFits cX4_alongFits 3 (some .boolean)) := ⟨in_wsL_law_r17 _ (List.mem_of_getElem? (i := 8) rfl), good_of_word (by decide +kernel)⟩
theorem wd_372 : GW (.static yX4_alongFits) := ⟨in_wsL_law_r17 _ (List.mem_of_getElem? (i := 7) rfl), good_of_word (by decide +kernel)⟩
theorem wd_373 : GW (.methodLink RX4 30 yX4_alongFits) := ⟨in_wsL_law_r17 _ (List.mem_of_getElem? (i := 6) rfl), good_of_word (by decide +kernel)⟩
theorem wd_374 : GW (.code yX4_fill cX4_fill 13 none) := ⟨in_wsL_law_r17 _ (List.mem_of_getElem? (i := 5) rfl), good_of_word (by decide +kernel)⟩
theorem wd_375 : GW (.static yX4_fill) := ⟨in_wsL_law_r17 _ (List.mem_of_getElem? (i := 4) rfl), good_of_word (by decide +kernel)⟩
theorem wd_376 : GW (.methodLink RX4 24 yX4_fill) := ⟨in_wsL_law_r17 _ (List.mem_of_getElem? (i := 3) rfl), good_of_word (by decide +kernel)⟩
theorem wd_377 : GW (.fieldLink RX4 20 "ParquetLayer$Layings" "free" "J") := ⟨in_wsL_law_r17 _ (List.mem_of_getElem? (i := 2) rfl), good_of_word (by decide +kernel)⟩
theorem wd_378 : GW (.fieldLink RX4 16 "ParquetLayer$Layings" "known" "Z") := ⟨in_wsL_law_r17 _ (List.mem_of_getElem? (i := 1) rfl), good_of_word (by decide +kernel)⟩
theorem wd_379 : GW (.code yX4_know cX4_know 4 none) := ⟨in_wsL_law_r17 _ (List.mem_of_getElem? (i := 0) rfl), good_of_word (by decide +kernel)⟩
theorem wd_380 : GW (.selects RX4 yX4_know yX4_know) := ⟨in_wsL_law_r16 _ (List.mem_of_getElem? (i := 23) rfl), good_of_word (by decide +kernel)⟩
theorem wd_381 : GW (.instanceMethod yX4_know) := ⟨in_wsL_law_r16 _ (List.mem_of_getElem? (i := 22) rfl), good_of_word (by decide +kernel)⟩
theorem wd_382 : GW (.methodLink RX9 342 yX4_know) := ⟨in_wsL_law_r16 _ (List.mem_of_getElem? (i := 21) rfl), good_of_word (by decide +kernel)⟩
set_option maxRecDepth 20000 in
theorem gr_wsX9_count_r2 : GoodIn lw_tbl wsX9_count_r2 := gi_cons wd_74 (gi_cons wd_72 (gi_cons wd_223 (gi_cons wd_222 (gi_cons wd_221 (gi_cons wd_220 (gi_cons wd_219 (gi_cons wd_218 (gi_cons wd_217 (gi_cons wd_216 (gi_cons wd_382 (gi_cons wd_381 (gi_cons wd_380 (gi_cons wd_379 (gi_cons wd_378 (gi_cons wd_377 (gi_cons wd_376 (gi_cons wd_375 (gi_cons wd_374 (gi_cons wd_373 (gi_cons wd_372 (gi_cons wd_371 (gi_cons wd_370 (gi_cons wd_190 (gi_nil))))))))))))))))))))))))
theorem wd_383 : GW (.code yX4_total cX4_total 1 (some .int)) := ⟨in_wsL_law_r17 _ (List.mem_of_getElem? (i := 16) rfl), good_of_word (by decide +kernel)⟩
theorem wd_384 : GW (.selects RX4 yX4_total yX4_total) := ⟨in_wsL_law_r17 _ (List.mem_of_getElem? (i := 15) rfl), good_of_word (by decide +kernel)⟩
theorem wd_385 : GW (.instanceMethod yX4_total) := ⟨in_wsL_law_r17 _ (List.mem_of_getElem? (i := 14) rfl), good_of_word (by decide +kernel)⟩
theorem wd_386 : GW (.methodLink RX9 174 yX4_total) := ⟨in_wsL_law_r17 _ (List.mem_of_getElem? (i := 13) rfl), good_of_word (by decide +kernel)⟩
theorem wd_387 : GW (.code yX4_acrossFits cX4_acrossFits 3 (some .boolean)) := ⟨in_wsL_law_r17 _ (List.mem_of_getElem? (i := 12) rfl), good_of_word (by decide +kernel)⟩
theorem wd_388 : GW (.static yX4_acrossFits) := ⟨in_wsL_law_r17 _ (List.mem_of_getElem? (i := 11) rfl), good_of_word (by decide +kernel)⟩
theorem wd_389 : GW (.methodLink RX4 34 yX4_acrossFits) := ⟨in_wsL_law_r17 _ (List.mem_of_getElem? (i := 10) rfl), good_of_word (by decide +kernel)⟩
set_option maxRecDepth 20000 in
theorem gr_wsX9_count_r3 : GoodIn lw_tbl wsX9_count_r3 := gi_cons wd_66 (gi_cons wd_189 (gi_cons wd_389 (gi_cons wd_388 (gi_cons wd_387 (gi_cons wd_386 (gi_cons wd_385 (gi_cons wd_384 (gi_cons wd_383 (gi_nil)))))))))
set_option maxRecDepth 20000 in
theorem gr_wsX9_count : GoodIn lw_tbl wsX9_count := gi_cons wd_356 (goodIn_app (goodIn_app (goodIn_app (goodIn_app (gr_wsX9_count_r1) (goodIn_app (gr_wsX9_count_r2) (gr_wsX9_count_r3))) (gu_X9)) (gu_X4)) (gu_X7))
theorem wd_390 : GW (.methodLink RL 45 yX9_count) := ⟨in_wsL_law_r16 _ (List.mem_of_getElem? (i := 4) rfl), good_of_word (by decide +kernel)⟩
theorem wd_391 : GW (.instanceMethod yX9_count) := ⟨in_wsL_law_r16 _ (List.mem_of_getElem? (i := 5) rfl), good_of_word (by decide +kernel)⟩
theorem wd_392 : GW (.selects RX9 yX9_count yX9_count) := ⟨in_wsL_law_r16 _ (List.mem_of_getElem? (i := 6) rfl), good_of_word (by decide +kernel)⟩
theorem gq_X9_count : GoodIn lw_tbl (wsV RL 45 RX9 yX9_count wsX9_count) := goodIn_app (gi_cons wd_390 (gi_cons wd_391 (gi_cons wd_392 (gi_cons wd_82 gi_nil)))) gr_wsX9_count
theorem wd_393 : GW (.code yX10_count cX10_count 1 (some .int)) := ⟨in_wsL_law_r17 _ (List.mem_of_getElem? (i := 20) rfl), good_of_word (by decide +kernel)⟩
theorem wd_394 : GW (.fieldLink RX10 181 "ParquetLayerModel" "taken" "J") := ⟨in_wsL_law_r18 _ (List.mem_of_getElem? (i := 7) rfl), good_of_word (by decide +kernel)⟩
theorem wd_395 : GW (.fieldLink RX10 187 "ParquetLayerModel" "mustAcross" "J") := ⟨in_wsL_law_r18 _ (List.mem_of_getElem? (i := 6) rfl), good_of_word (by decide +kernel)⟩
theorem wd_396 : GW (.fieldLink RX10 184 "ParquetLayerModel" "mustAlong" "J") := ⟨in_wsL_law_r18 _ (List.mem_of_getElem? (i := 5) rfl), good_of_word (by decide +kernel)⟩
theorem wd_397 : GW (.code yX10_findGlued cX10_findGlued 2 none) := ⟨in_wsL_law_r18 _ (List.mem_of_getElem? (i := 4) rfl), good_of_word (by decide +kernel)⟩
theorem wd_398 : GW (.selects RX10 yX10_findGlued yX10_findGlued) := ⟨in_wsL_law_r18 _ (List.mem_of_getElem? (i := 3) rfl), good_of_word (by decide +kernel)⟩
theorem wd_399 : GW (.instanceMethod yX10_findGlued) := ⟨in_wsL_law_r18 _ (List.mem_of_getElem? (i := 2) rfl), good_of_word (by decide +kernel)⟩
theorem wd_400 : GW (.methodLink RX10 201 yX10_findGlued) := ⟨in_wsL_law_r18 _ (List.mem_of_getElem? (i := 1) rfl), good_of_word (by decide +kernel)⟩
theorem wd_401 : GW (.code yX10_countAll cX10_countAll 1 (some .int)) := ⟨in_wsL_law_r18 _ (List.mem_of_getElem? (i := 0) rfl), good_of_word (by decide +kernel)⟩
theorem wd_402 : GW (.selects RX10 yX10_countAll yX10_countAll) := ⟨in_wsL_law_r17 _ (List.mem_of_getElem? (i := 23) rfl), good_of_word (by decide +kernel)⟩
theorem wd_403 : GW (.instanceMethod yX10_countAll) := ⟨in_wsL_law_r17 _ (List.mem_of_getElem? (i := 22) rfl), good_of_word (by decide +kernel)⟩
theorem wd_404 : GW (.methodLink RX10 207 yX10_countAll) := ⟨in_wsL_law_r17 _ (List.mem_of_getElem? (i := 21) rfl), good_of_word (by decide +kernel)⟩
set_option maxRecDepth 20000 in
theorem gr_wsX10_count_r1 : GoodIn lw_tbl wsX10_count_r1 := gi_cons wd_404 (gi_cons wd_403 (gi_cons wd_402 (gi_cons wd_140 (gi_cons wd_401 (gi_cons wd_400 (gi_cons wd_399 (gi_cons wd_398 (gi_cons wd_397 (gi_cons wd_396 (gi_cons wd_395 (gi_cons wd_394 (gi_cons wd_129 (gi_cons wd_248 (gi_cons wd_247 (gi_cons wd_246 (gi_cons wd_245 (gi_cons wd_161 (gi_cons wd_160 (gi_cons wd_159 (gi_cons wd_158 (gi_cons wd_63 (gi_cons wd_126 (gi_cons wd_125 (gi_nil))))))))))))))))))))))))
theorem wd_405 : GW (.methodLink RX10 194 yX10_mayLie) := ⟨in_wsL_law_r18 _ (List.mem_of_getElem? (i := 16) rfl), good_of_word (by decide +kernel)⟩
theorem wd_406 : GW (.code yX10_findWays cX10_findWays 8 none) := ⟨in_wsL_law_r18 _ (List.mem_of_getElem? (i := 15) rfl), good_of_word (by decide +kernel)⟩
theorem wd_407 : GW (.selects RX10 yX10_findWays yX10_findWays) := ⟨in_wsL_law_r18 _ (List.mem_of_getElem? (i := 14) rfl), good_of_word (by decide +kernel)⟩
theorem wd_408 : GW (.instanceMethod yX10_findWays) := ⟨in_wsL_law_r18 _ (List.mem_of_getElem? (i := 13) rfl), good_of_word (by decide +kernel)⟩
theorem wd_409 : GW (.methodLink RX10 204 yX10_findWays) := ⟨in_wsL_law_r18 _ (List.mem_of_getElem? (i := 12) rfl), good_of_word (by decide +kernel)⟩
theorem wd_410 : GW (.code yX10_must cX10_must 3 none) := ⟨in_wsL_law_r18 _ (List.mem_of_getElem? (i := 11) rfl), good_of_word (by decide +kernel)⟩
theorem wd_411 : GW (.selects RX10 yX10_must yX10_must) := ⟨in_wsL_law_r18 _ (List.mem_of_getElem? (i := 10) rfl), good_of_word (by decide +kernel)⟩
theorem wd_412 : GW (.instanceMethod yX10_must) := ⟨in_wsL_law_r18 _ (List.mem_of_getElem? (i := 9) rfl), good_of_word (by decide +kernel)⟩
theorem wd_413 : GW (.methodLink RX10 190 yX10_must) := ⟨in_wsL_law_r18 _ (List.mem_of_getElem? (i := 8) rfl), good_of_word (by decide +kernel)⟩
set_option maxRecDepth 20000 in
theorem gr_wsX10_count_r2 : GoodIn lw_tbl wsX10_count_r2 := gi_cons wd_124 (gi_cons wd_123 (gi_cons wd_169 (gi_cons wd_168 (gi_cons wd_167 (gi_cons wd_166 (gi_cons wd_413 (gi_cons wd_412 (gi_cons wd_411 (gi_cons wd_410 (gi_cons wd_165 (gi_cons wd_164 (gi_cons wd_163 (gi_cons wd_162 (gi_cons wd_409 (gi_cons wd_408 (gi_cons wd_407 (gi_cons wd_406 (gi_cons wd_50 (gi_cons wd_145 (gi_cons wd_148 (gi_cons wd_147 (gi_cons wd_181 (gi_cons wd_405 (gi_nil))))))))))))))))))))))))
theorem wd_414 : GW (.code yX10_waysAt cX10_waysAt 3 (some .int)) := ⟨in_wsL_law_r18 _ (List.mem_of_getElem? (i := 23) rfl), good_of_word (by decide +kernel)⟩
theorem wd_415 : GW (.selects RX10 yX10_waysAt yX10_waysAt) := ⟨in_wsL_law_r18 _ (List.mem_of_getElem? (i := 22) rfl), good_of_word (by decide +kernel)⟩
theorem wd_416 : GW (.instanceMethod yX10_waysAt) := ⟨in_wsL_law_r18 _ (List.mem_of_getElem? (i := 21) rfl), good_of_word (by decide +kernel)⟩
theorem wd_417 : GW (.methodLink RX10 197 yX10_waysAt) := ⟨in_wsL_law_r18 _ (List.mem_of_getElem? (i := 20) rfl), good_of_word (by decide +kernel)⟩
theorem wd_418 : GW (.code yX10_mayLie cX10_mayLie 5 (some .boolean)) := ⟨in_wsL_law_r18 _ (List.mem_of_getElem? (i := 19) rfl), good_of_word (by decide +kernel)⟩
theorem wd_419 : GW (.selects RX10 yX10_mayLie yX10_mayLie) := ⟨in_wsL_law_r18 _ (List.mem_of_getElem? (i := 18) rfl), good_of_word (by decide +kernel)⟩
theorem wd_420 : GW (.instanceMethod yX10_mayLie) := ⟨in_wsL_law_r18 _ (List.mem_of_getElem? (i := 17) rfl), good_of_word (by decide +kernel)⟩
set_option maxRecDepth 20000 in
theorem gr_wsX10_count_r3 : GoodIn lw_tbl wsX10_count_r3 := gi_cons wd_420 (gi_cons wd_419 (gi_cons wd_418 (gi_cons wd_143 (gi_cons wd_417 (gi_cons wd_416 (gi_cons wd_415 (gi_cons wd_414 (gi_nil))))))))
set_option maxRecDepth 20000 in
theorem gr_wsX10_count : GoodIn lw_tbl wsX10_count := gi_cons wd_393 (goodIn_app (goodIn_app (gr_wsX10_count_r1) (goodIn_app (gr_wsX10_count_r2) (gr_wsX10_count_r3))) (gu_X10))
theorem wd_421 : GW (.methodLink RL 48 yX10_count) := ⟨in_wsL_law_r17 _ (List.mem_of_getElem? (i := 17) rfl), good_of_word (by decide +kernel)⟩
theorem wd_422 : GW (.instanceMethod yX10_count) := ⟨in_wsL_law_r17 _ (List.mem_of_getElem? (i := 18) rfl), good_of_word (by decide +kernel)⟩
theorem wd_423 : GW (.selects RX10 yX10_count yX10_count) := ⟨in_wsL_law_r17 _ (List.mem_of_getElem? (i := 19) rfl), good_of_word (by decide +kernel)⟩
theorem gq_X10_count : GoodIn lw_tbl (wsV RL 48 RX10 yX10_count wsX10_count) := goodIn_app (gi_cons wd_421 (gi_cons wd_422 (gi_cons wd_423 (gi_cons wd_140 gi_nil)))) gr_wsX10_count
theorem wd_424 : GW (.code yX9_with cX9_with 5 (some .int)) := ⟨in_wsL_law_r19 _ (List.mem_of_getElem? (i := 3) rfl), good_of_word (by decide +kernel)⟩
theorem wd_425 : GW (.selects RX9 yX9_isGluedPlace yX9_isGluedPlace) := ⟨in_wsL_law_r19 _ (List.mem_of_getElem? (i := 6) rfl), good_of_word (by decide +kernel)⟩
theorem wd_426 : GW (.instanceMethod yX9_isGluedPlace) := ⟨in_wsL_law_r19 _ (List.mem_of_getElem? (i := 5) rfl), good_of_word (by decide +kernel)⟩
theorem wd_427 : GW (.methodLink RX9 179 yX9_isGluedPlace) := ⟨in_wsL_law_r19 _ (List.mem_of_getElem? (i := 4) rfl), good_of_word (by decide +kernel)⟩
set_option maxRecDepth 20000 in
theorem gr_wsX9_with_r1 : GoodIn lw_tbl wsX9_with_r1 := gi_cons wd_89 (gi_cons wd_277 (gi_cons wd_194 (gi_cons wd_193 (gi_cons wd_66 (gi_cons wd_192 (gi_cons wd_85 (gi_cons wd_84 (gi_cons wd_83 (gi_cons wd_82 (gi_cons wd_81 (gi_cons wd_80 (gi_cons wd_294 (gi_cons wd_293 (gi_cons wd_292 (gi_cons wd_291 (gi_cons wd_88 (gi_cons wd_86 (gi_cons wd_290 (gi_cons wd_289 (gi_cons wd_288 (gi_cons wd_427 (gi_cons wd_426 (gi_cons wd_425 (gi_nil))))))))))))))))))))))))
theorem wd_428 : GW (.code yX9_gluedStarts cX9_gluedStarts 5 (some .long)) := ⟨in_wsL_law_r19 _ (List.mem_of_getElem? (i := 11) rfl), good_of_word (by decide +kernel)⟩
theorem wd_429 : GW (.selects RX9 yX9_gluedStarts yX9_gluedStarts) := ⟨in_wsL_law_r19 _ (List.mem_of_getElem? (i := 10) rfl), good_of_word (by decide +kernel)⟩
theorem wd_430 : GW (.instanceMethod yX9_gluedStarts) := ⟨in_wsL_law_r19 _ (List.mem_of_getElem? (i := 9) rfl), good_of_word (by decide +kernel)⟩
theorem wd_431 : GW (.methodLink RX9 333 yX9_gluedStarts) := ⟨in_wsL_law_r19 _ (List.mem_of_getElem? (i := 8) rfl), good_of_word (by decide +kernel)⟩
theorem wd_432 : GW (.code yX9_isGluedPlace cX9_isGluedPlace 3 (some .boolean)) := ⟨in_wsL_law_r19 _ (List.mem_of_getElem? (i := 7) rfl), good_of_word (by decide +kernel)⟩
set_option maxRecDepth 20000 in
theorem gr_wsX9_with_r2 : GoodIn lw_tbl wsX9_with_r2 := gi_cons wd_432 (gi_cons wd_431 (gi_cons wd_430 (gi_cons wd_429 (gi_cons wd_428 (gi_cons wd_75 (gi_cons wd_341 (gi_cons wd_342 (gi_cons wd_72 (gi_cons wd_223 (gi_cons wd_222 (gi_cons wd_221 (gi_cons wd_220 (gi_cons wd_219 (gi_cons wd_218 (gi_cons wd_217 (gi_cons wd_216 (gi_cons wd_191 (gi_cons wd_190 (gi_cons wd_189 (gi_cons wd_369 (gi_cons wd_368 (gi_cons wd_367 (gi_cons wd_366 (gi_nil))))))))))))))))))))))))
set_option maxRecDepth 20000 in
theorem gr_wsX9_with_r3 : GoodIn lw_tbl wsX9_with_r3 := gi_cons wd_365 (gi_cons wd_364 (gi_cons wd_363 (gi_cons wd_362 (gi_cons wd_361 (gi_cons wd_360 (gi_cons wd_359 (gi_cons wd_23 (gi_cons wd_22 (gi_cons wd_42 (gi_cons wd_358 (gi_cons wd_357 (gi_cons wd_227 (gi_cons wd_226 (gi_cons wd_225 (gi_cons wd_224 (gi_cons wd_74 (gi_cons wd_382 (gi_cons wd_381 (gi_cons wd_380 (gi_cons wd_379 (gi_cons wd_378 (gi_cons wd_377 (gi_cons wd_376 (gi_nil))))))))))))))))))))))))
theorem wd_433 : GW (.constantLong RX4 28 (-1)) := ⟨in_wsL_law_r19 _ (List.mem_of_getElem? (i := 16) rfl), good_of_word (by decide +kernel)⟩
theorem wd_434 : GW (.code yX4_totalWithout cX4_totalWithout 4 (some .int)) := ⟨in_wsL_law_r19 _ (List.mem_of_getElem? (i := 15) rfl), good_of_word (by decide +kernel)⟩
theorem wd_435 : GW (.selects RX4 yX4_totalWithout yX4_totalWithout) := ⟨in_wsL_law_r19 _ (List.mem_of_getElem? (i := 14) rfl), good_of_word (by decide +kernel)⟩
theorem wd_436 : GW (.instanceMethod yX4_totalWithout) := ⟨in_wsL_law_r19 _ (List.mem_of_getElem? (i := 13) rfl), good_of_word (by decide +kernel)⟩
theorem wd_437 : GW (.methodLink RX9 186 yX4_totalWithout) := ⟨in_wsL_law_r19 _ (List.mem_of_getElem? (i := 12) rfl), good_of_word (by decide +kernel)⟩
set_option maxRecDepth 20000 in
theorem gr_wsX9_with_r4 : GoodIn lw_tbl wsX9_with_r4 := gi_cons wd_375 (gi_cons wd_374 (gi_cons wd_373 (gi_cons wd_372 (gi_cons wd_371 (gi_cons wd_370 (gi_cons wd_389 (gi_cons wd_388 (gi_cons wd_387 (gi_cons wd_386 (gi_cons wd_385 (gi_cons wd_384 (gi_cons wd_383 (gi_cons wd_437 (gi_cons wd_436 (gi_cons wd_435 (gi_cons wd_434 (gi_cons wd_433 (gi_nil))))))))))))))))))
set_option maxRecDepth 20000 in
theorem gr_wsX9_with : GoodIn lw_tbl wsX9_with := gi_cons wd_424 (goodIn_app (goodIn_app (goodIn_app (goodIn_app (gr_wsX9_with_r1) (goodIn_app (gr_wsX9_with_r2) (goodIn_app (gr_wsX9_with_r3) (gr_wsX9_with_r4)))) (gu_X9)) (gu_X7)) (gu_X4))
theorem wd_438 : GW (.methodLink RL 49 yX9_with) := ⟨in_wsL_law_r19 _ (List.mem_of_getElem? (i := 0) rfl), good_of_word (by decide +kernel)⟩
theorem wd_439 : GW (.instanceMethod yX9_with) := ⟨in_wsL_law_r19 _ (List.mem_of_getElem? (i := 1) rfl), good_of_word (by decide +kernel)⟩
theorem wd_440 : GW (.selects RX9 yX9_with yX9_with) := ⟨in_wsL_law_r19 _ (List.mem_of_getElem? (i := 2) rfl), good_of_word (by decide +kernel)⟩
theorem gq_X9_with : GoodIn lw_tbl (wsV RL 49 RX9 yX9_with wsX9_with) := goodIn_app (gi_cons wd_438 (gi_cons wd_439 (gi_cons wd_440 (gi_cons wd_82 gi_nil)))) gr_wsX9_with
theorem wd_441 : GW (.code yX10_with cX10_with 5 (some .int)) := ⟨in_wsL_law_r19 _ (List.mem_of_getElem? (i := 20) rfl), good_of_word (by decide +kernel)⟩
set_option maxRecDepth 20000 in
theorem gr_wsX10_with_r1 : GoodIn lw_tbl wsX10_with_r1 := gi_cons wd_146 (gi_cons wd_145 (gi_cons wd_143 (gi_cons wd_306 (gi_cons wd_201 (gi_cons wd_200 (gi_cons wd_140 (gi_cons wd_199 (gi_cons wd_142 (gi_cons wd_141 (gi_cons wd_139 (gi_cons wd_138 (gi_cons wd_137 (gi_cons wd_136 (gi_cons wd_135 (gi_cons wd_134 (gi_cons wd_165 (gi_cons wd_164 (gi_cons wd_163 (gi_cons wd_162 (gi_cons wd_400 (gi_cons wd_399 (gi_cons wd_398 (gi_cons wd_397 (gi_nil))))))))))))))))))))))))
set_option maxRecDepth 20000 in
theorem gr_wsX10_with_r2 : GoodIn lw_tbl wsX10_with_r2 := gi_cons wd_396 (gi_cons wd_395 (gi_cons wd_394 (gi_cons wd_129 (gi_cons wd_248 (gi_cons wd_247 (gi_cons wd_246 (gi_cons wd_245 (gi_cons wd_161 (gi_cons wd_160 (gi_cons wd_159 (gi_cons wd_158 (gi_cons wd_63 (gi_cons wd_126 (gi_cons wd_125 (gi_cons wd_124 (gi_cons wd_123 (gi_cons wd_169 (gi_cons wd_168 (gi_cons wd_167 (gi_cons wd_166 (gi_cons wd_413 (gi_cons wd_412 (gi_cons wd_411 (gi_nil))))))))))))))))))))))))
set_option maxRecDepth 20000 in
theorem gr_wsX10_with_r3 : GoodIn lw_tbl wsX10_with_r3 := gi_cons wd_410 (gi_cons wd_405 (gi_cons wd_420 (gi_cons wd_419 (gi_cons wd_418 (gi_cons wd_148 (gi_cons wd_147 (gi_cons wd_181 (gi_cons wd_409 (gi_cons wd_408 (gi_cons wd_407 (gi_cons wd_406 (gi_cons wd_50 (gi_cons wd_417 (gi_cons wd_416 (gi_cons wd_415 (gi_cons wd_414 (gi_nil)))))))))))))))))
set_option maxRecDepth 20000 in
theorem gr_wsX10_with : GoodIn lw_tbl wsX10_with := gi_cons wd_441 (goodIn_app (goodIn_app (gr_wsX10_with_r1) (goodIn_app (gr_wsX10_with_r2) (gr_wsX10_with_r3))) (gu_X10))
theorem wd_442 : GW (.methodLink RL 53 yX10_with) := ⟨in_wsL_law_r19 _ (List.mem_of_getElem? (i := 17) rfl), good_of_word (by decide +kernel)⟩
theorem wd_443 : GW (.instanceMethod yX10_with) := ⟨in_wsL_law_r19 _ (List.mem_of_getElem? (i := 18) rfl), good_of_word (by decide +kernel)⟩
theorem wd_444 : GW (.selects RX10 yX10_with yX10_with) := ⟨in_wsL_law_r19 _ (List.mem_of_getElem? (i := 19) rfl), good_of_word (by decide +kernel)⟩
theorem gq_X10_with : GoodIn lw_tbl (wsV RL 53 RX10 yX10_with wsX10_with) := goodIn_app (gi_cons wd_442 (gi_cons wd_443 (gi_cons wd_444 (gi_cons wd_140 gi_nil)))) gr_wsX10_with
theorem wd_445 : GW (.code yX9_lay cX9_lay 2 (some .int)) := ⟨in_wsL_law_r20 _ (List.mem_of_getElem? (i := 0) rfl), good_of_word (by decide +kernel)⟩
theorem wd_446 : GW (.code yX9_isLaying cX9_isLaying 2 (some .boolean)) := ⟨in_wsL_law_r20 _ (List.mem_of_getElem? (i := 4) rfl), good_of_word (by decide +kernel)⟩
theorem wd_447 : GW (.selects RX9 yX9_isLaying yX9_isLaying) := ⟨in_wsL_law_r20 _ (List.mem_of_getElem? (i := 3) rfl), good_of_word (by decide +kernel)⟩
theorem wd_448 : GW (.instanceMethod yX9_isLaying) := ⟨in_wsL_law_r20 _ (List.mem_of_getElem? (i := 2) rfl), good_of_word (by decide +kernel)⟩
theorem wd_449 : GW (.methodLink RX9 189 yX9_isLaying) := ⟨in_wsL_law_r20 _ (List.mem_of_getElem? (i := 1) rfl), good_of_word (by decide +kernel)⟩
set_option maxRecDepth 20000 in
theorem gr_wsX9_lay_r1 : GoodIn lw_tbl wsX9_lay_r1 := gi_cons wd_89 (gi_cons wd_69 (gi_cons wd_449 (gi_cons wd_448 (gi_cons wd_447 (gi_cons wd_82 (gi_cons wd_446 (gi_cons wd_369 (gi_cons wd_368 (gi_cons wd_367 (gi_cons wd_366 (gi_cons wd_365 (gi_cons wd_364 (gi_cons wd_363 (gi_cons wd_362 (gi_cons wd_88 (gi_cons wd_86 (gi_cons wd_361 (gi_cons wd_360 (gi_cons wd_359 (gi_cons wd_23 (gi_cons wd_22 (gi_cons wd_42 (gi_cons wd_358 (gi_nil))))))))))))))))))))))))
set_option maxRecDepth 20000 in
theorem gr_wsX9_lay_r2 : GoodIn lw_tbl wsX9_lay_r2 := gi_cons wd_357 (gi_cons wd_227 (gi_cons wd_226 (gi_cons wd_225 (gi_cons wd_224 (gi_cons wd_75 (gi_cons wd_74 (gi_cons wd_72 (gi_cons wd_223 (gi_cons wd_222 (gi_cons wd_221 (gi_cons wd_220 (gi_cons wd_219 (gi_cons wd_218 (gi_cons wd_217 (gi_cons wd_216 (gi_cons wd_382 (gi_cons wd_381 (gi_cons wd_380 (gi_cons wd_379 (gi_cons wd_378 (gi_cons wd_377 (gi_cons wd_376 (gi_cons wd_375 (gi_nil))))))))))))))))))))))))
theorem wd_450 : GW (.code yX9_layingOf cX9_layingOf 7 (some (.object "ParquetLayer$Laying"))) := ⟨in_wsL_law_r20 _ (List.mem_of_getElem? (i := 8) rfl), good_of_word (by decide +kernel)⟩
theorem wd_451 : GW (.selects RX9 yX9_layingOf yX9_layingOf) := ⟨in_wsL_law_r20 _ (List.mem_of_getElem? (i := 7) rfl), good_of_word (by decide +kernel)⟩
theorem wd_452 : GW (.instanceMethod yX9_layingOf) := ⟨in_wsL_law_r20 _ (List.mem_of_getElem? (i := 6) rfl), good_of_word (by decide +kernel)⟩
theorem wd_453 : GW (.methodLink RX9 192 yX9_layingOf) := ⟨in_wsL_law_r20 _ (List.mem_of_getElem? (i := 5) rfl), good_of_word (by decide +kernel)⟩
set_option maxRecDepth 20000 in
theorem gr_wsX9_lay_r3 : GoodIn lw_tbl wsX9_lay_r3 := gi_cons wd_374 (gi_cons wd_373 (gi_cons wd_372 (gi_cons wd_371 (gi_cons wd_370 (gi_cons wd_190 (gi_cons wd_66 (gi_cons wd_189 (gi_cons wd_389 (gi_cons wd_388 (gi_cons wd_387 (gi_cons wd_386 (gi_cons wd_385 (gi_cons wd_384 (gi_cons wd_383 (gi_cons wd_85 (gi_cons wd_84 (gi_cons wd_83 (gi_cons wd_81 (gi_cons wd_80 (gi_cons wd_453 (gi_cons wd_452 (gi_cons wd_451 (gi_cons wd_450 (gi_nil))))))))))))))))))))))))
theorem wd_454 : GW (.constantLong RX4 50 (3)) := ⟨in_wsL_law_r21 _ (List.mem_of_getElem? (i := 3) rfl), good_of_word (by decide +kernel)⟩
theorem wd_455 : GW (.code yX4_alongBeside cX4_alongBeside 8 (some .long)) := ⟨in_wsL_law_r21 _ (List.mem_of_getElem? (i := 2) rfl), good_of_word (by decide +kernel)⟩
theorem wd_456 : GW (.selects RX4 yX4_alongBeside yX4_alongBeside) := ⟨in_wsL_law_r21 _ (List.mem_of_getElem? (i := 1) rfl), good_of_word (by decide +kernel)⟩
theorem wd_457 : GW (.instanceMethod yX4_alongBeside) := ⟨in_wsL_law_r21 _ (List.mem_of_getElem? (i := 0) rfl), good_of_word (by decide +kernel)⟩
theorem wd_458 : GW (.methodLink RX9 349 yX4_alongBeside) := ⟨in_wsL_law_r20 _ (List.mem_of_getElem? (i := 23) rfl), good_of_word (by decide +kernel)⟩
theorem wd_459 : GW (.code yX4_alongWays cX4_alongWays 3 (some .int)) := ⟨in_wsL_law_r20 _ (List.mem_of_getElem? (i := 22) rfl), good_of_word (by decide +kernel)⟩
theorem wd_460 : GW (.selects RX4 yX4_alongWays yX4_alongWays) := ⟨in_wsL_law_r20 _ (List.mem_of_getElem? (i := 21) rfl), good_of_word (by decide +kernel)⟩
theorem wd_461 : GW (.instanceMethod yX4_alongWays) := ⟨in_wsL_law_r20 _ (List.mem_of_getElem? (i := 20) rfl), good_of_word (by decide +kernel)⟩
theorem wd_462 : GW (.methodLink RX4 46 yX4_alongWays) := ⟨in_wsL_law_r20 _ (List.mem_of_getElem? (i := 19) rfl), good_of_word (by decide +kernel)⟩
theorem wd_463 : GW (.code yX4_beginsStone cX4_beginsStone 3 (some .boolean)) := ⟨in_wsL_law_r20 _ (List.mem_of_getElem? (i := 18) rfl), good_of_word (by decide +kernel)⟩
theorem wd_464 : GW (.selects RX4 yX4_beginsStone yX4_beginsStone) := ⟨in_wsL_law_r20 _ (List.mem_of_getElem? (i := 17) rfl), good_of_word (by decide +kernel)⟩
theorem wd_465 : GW (.instanceMethod yX4_beginsStone) := ⟨in_wsL_law_r20 _ (List.mem_of_getElem? (i := 16) rfl), good_of_word (by decide +kernel)⟩
theorem wd_466 : GW (.methodLink RX4 42 yX4_beginsStone) := ⟨in_wsL_law_r20 _ (List.mem_of_getElem? (i := 15) rfl), good_of_word (by decide +kernel)⟩
theorem wd_467 : GW (.code yX4_acrossOf cX4_acrossOf 9 (some .long)) := ⟨in_wsL_law_r20 _ (List.mem_of_getElem? (i := 14) rfl), good_of_word (by decide +kernel)⟩
theorem wd_468 : GW (.selects RX4 yX4_acrossOf yX4_acrossOf) := ⟨in_wsL_law_r20 _ (List.mem_of_getElem? (i := 13) rfl), good_of_word (by decide +kernel)⟩
theorem wd_469 : GW (.instanceMethod yX4_acrossOf) := ⟨in_wsL_law_r20 _ (List.mem_of_getElem? (i := 12) rfl), good_of_word (by decide +kernel)⟩
theorem wd_470 : GW (.methodLink RX9 345 yX4_acrossOf) := ⟨in_wsL_law_r20 _ (List.mem_of_getElem? (i := 11) rfl), good_of_word (by decide +kernel)⟩
theorem wd_471 : GW (.instantiable RX3 3) := ⟨in_wsL_law_r20 _ (List.mem_of_getElem? (i := 10) rfl), good_of_word (by decide +kernel)⟩
theorem wd_472 : GW (.classLink RX9 166 RX3) := ⟨in_wsL_law_r20 _ (List.mem_of_getElem? (i := 9) rfl), good_of_word (by decide +kernel)⟩
set_option maxRecDepth 20000 in
theorem gr_wsX9_lay_r4 : GoodIn lw_tbl wsX9_lay_r4 := gi_cons wd_472 (gi_cons wd_471 (gi_cons wd_347 (gi_cons wd_470 (gi_cons wd_469 (gi_cons wd_468 (gi_cons wd_467 (gi_cons wd_466 (gi_cons wd_465 (gi_cons wd_464 (gi_cons wd_463 (gi_cons wd_462 (gi_cons wd_461 (gi_cons wd_460 (gi_cons wd_459 (gi_cons wd_458 (gi_cons wd_457 (gi_cons wd_456 (gi_cons wd_455 (gi_cons wd_433 (gi_cons wd_454 (gi_cons wd_431 (gi_cons wd_430 (gi_cons wd_429 (gi_nil))))))))))))))))))))))))
theorem wd_473 : GW (.fieldLink RX3 7 "ParquetLayer$Laying" "number" "I") := ⟨in_wsL_law_r21 _ (List.mem_of_getElem? (i := 8) rfl), good_of_word (by decide +kernel)⟩
theorem wd_474 : GW (.methodLink RX3 1 objectInit) := ⟨in_wsL_law_r21 _ (List.mem_of_getElem? (i := 7) rfl), good_of_word (by decide +kernel)⟩
theorem wd_475 : GW (.code yX3_init cX3_init 6 none) := ⟨in_wsL_law_r21 _ (List.mem_of_getElem? (i := 6) rfl), good_of_word (by decide +kernel)⟩
theorem wd_476 : GW (.instanceMethod yX3_init) := ⟨in_wsL_law_r21 _ (List.mem_of_getElem? (i := 5) rfl), good_of_word (by decide +kernel)⟩
theorem wd_477 : GW (.methodLink RX9 352 yX3_init) := ⟨in_wsL_law_r21 _ (List.mem_of_getElem? (i := 4) rfl), good_of_word (by decide +kernel)⟩
set_option maxRecDepth 20000 in
theorem gr_wsX9_lay_r5 : GoodIn lw_tbl wsX9_lay_r5 := gi_cons wd_428 (gi_cons wd_341 (gi_cons wd_342 (gi_cons wd_477 (gi_cons wd_476 (gi_cons wd_475 (gi_cons wd_474 (gi_cons wd_473 (gi_cons wd_344 (gi_cons wd_345 (gi_nil))))))))))
set_option maxRecDepth 20000 in
theorem gr_wsX9_lay : GoodIn lw_tbl wsX9_lay := gi_cons wd_445 (goodIn_app (goodIn_app (goodIn_app (goodIn_app (goodIn_app (gr_wsX9_lay_r1) (goodIn_app (gr_wsX9_lay_r2) (goodIn_app (gr_wsX9_lay_r3) (goodIn_app (gr_wsX9_lay_r4) (gr_wsX9_lay_r5))))) (gu_X9)) (gu_X4)) (gu_X7)) (gu_X3))
theorem wd_478 : GW (.methodLink RL 54 yX9_lay) := ⟨in_wsL_law_r19 _ (List.mem_of_getElem? (i := 21) rfl), good_of_word (by decide +kernel)⟩
theorem wd_479 : GW (.instanceMethod yX9_lay) := ⟨in_wsL_law_r19 _ (List.mem_of_getElem? (i := 22) rfl), good_of_word (by decide +kernel)⟩
theorem wd_480 : GW (.selects RX9 yX9_lay yX9_lay) := ⟨in_wsL_law_r19 _ (List.mem_of_getElem? (i := 23) rfl), good_of_word (by decide +kernel)⟩
theorem gq_X9_lay : GoodIn lw_tbl (wsV RL 54 RX9 yX9_lay wsX9_lay) := goodIn_app (gi_cons wd_478 (gi_cons wd_479 (gi_cons wd_480 (gi_cons wd_82 gi_nil)))) gr_wsX9_lay
theorem wd_481 : GW (.code yX10_lay cX10_lay 2 (some .int)) := ⟨in_wsL_law_r21 _ (List.mem_of_getElem? (i := 12) rfl), good_of_word (by decide +kernel)⟩
set_option maxRecDepth 20000 in
theorem gr_wsX10_lay_r1 : GoodIn lw_tbl wsX10_lay_r1 := gi_cons wd_146 (gi_cons wd_404 (gi_cons wd_403 (gi_cons wd_402 (gi_cons wd_140 (gi_cons wd_401 (gi_cons wd_400 (gi_cons wd_399 (gi_cons wd_398 (gi_cons wd_397 (gi_cons wd_396 (gi_cons wd_395 (gi_cons wd_394 (gi_cons wd_129 (gi_cons wd_248 (gi_cons wd_247 (gi_cons wd_246 (gi_cons wd_245 (gi_cons wd_161 (gi_cons wd_160 (gi_cons wd_159 (gi_cons wd_158 (gi_cons wd_63 (gi_cons wd_126 (gi_nil))))))))))))))))))))))))
set_option maxRecDepth 20000 in
theorem gr_wsX10_lay_r2 : GoodIn lw_tbl wsX10_lay_r2 := gi_cons wd_125 (gi_cons wd_124 (gi_cons wd_123 (gi_cons wd_169 (gi_cons wd_168 (gi_cons wd_167 (gi_cons wd_166 (gi_cons wd_413 (gi_cons wd_412 (gi_cons wd_411 (gi_cons wd_410 (gi_cons wd_165 (gi_cons wd_164 (gi_cons wd_163 (gi_cons wd_162 (gi_cons wd_409 (gi_cons wd_408 (gi_cons wd_407 (gi_cons wd_406 (gi_cons wd_50 (gi_cons wd_145 (gi_cons wd_148 (gi_cons wd_147 (gi_cons wd_181 (gi_nil))))))))))))))))))))))))
theorem wd_482 : GW (.methodLink RX10 216 yX10_walk) := ⟨in_wsL_law_r21 _ (List.mem_of_getElem? (i := 19) rfl), good_of_word (by decide +kernel)⟩
theorem wd_483 : GW (.fieldLink RX10 213 "ParquetLayerModel" "walkAcross" "J") := ⟨in_wsL_law_r21 _ (List.mem_of_getElem? (i := 18) rfl), good_of_word (by decide +kernel)⟩
theorem wd_484 : GW (.fieldLink RX10 210 "ParquetLayerModel" "walkAlong" "J") := ⟨in_wsL_law_r21 _ (List.mem_of_getElem? (i := 17) rfl), good_of_word (by decide +kernel)⟩
theorem wd_485 : GW (.code yX10_take cX10_take 2 none) := ⟨in_wsL_law_r21 _ (List.mem_of_getElem? (i := 16) rfl), good_of_word (by decide +kernel)⟩
theorem wd_486 : GW (.selects RX10 yX10_take yX10_take) := ⟨in_wsL_law_r21 _ (List.mem_of_getElem? (i := 15) rfl), good_of_word (by decide +kernel)⟩
theorem wd_487 : GW (.instanceMethod yX10_take) := ⟨in_wsL_law_r21 _ (List.mem_of_getElem? (i := 14) rfl), good_of_word (by decide +kernel)⟩
theorem wd_488 : GW (.methodLink RX10 220 yX10_take) := ⟨in_wsL_law_r21 _ (List.mem_of_getElem? (i := 13) rfl), good_of_word (by decide +kernel)⟩
set_option maxRecDepth 20000 in
theorem gr_wsX10_lay_r3 : GoodIn lw_tbl wsX10_lay_r3 := gi_cons wd_405 (gi_cons wd_420 (gi_cons wd_419 (gi_cons wd_418 (gi_cons wd_143 (gi_cons wd_417 (gi_cons wd_416 (gi_cons wd_415 (gi_cons wd_414 (gi_cons wd_138 (gi_cons wd_137 (gi_cons wd_136 (gi_cons wd_135 (gi_cons wd_134 (gi_cons wd_488 (gi_cons wd_487 (gi_cons wd_486 (gi_cons wd_485 (gi_cons wd_484 (gi_cons wd_174 (gi_cons wd_483 (gi_cons wd_173 (gi_cons wd_175 (gi_cons wd_482 (gi_nil))))))))))))))))))))))))
theorem wd_489 : GW (.code yX10_walk cX10_walk 8 none) := ⟨in_wsL_law_r21 _ (List.mem_of_getElem? (i := 22) rfl), good_of_word (by decide +kernel)⟩
theorem wd_490 : GW (.selects RX10 yX10_walk yX10_walk) := ⟨in_wsL_law_r21 _ (List.mem_of_getElem? (i := 21) rfl), good_of_word (by decide +kernel)⟩
theorem wd_491 : GW (.instanceMethod yX10_walk) := ⟨in_wsL_law_r21 _ (List.mem_of_getElem? (i := 20) rfl), good_of_word (by decide +kernel)⟩
set_option maxRecDepth 20000 in
theorem gr_wsX10_lay_r4 : GoodIn lw_tbl wsX10_lay_r4 := gi_cons wd_491 (gi_cons wd_490 (gi_cons wd_489 (gi_nil)))
set_option maxRecDepth 20000 in
theorem gr_wsX10_lay : GoodIn lw_tbl wsX10_lay := gi_cons wd_481 (goodIn_app (goodIn_app (gr_wsX10_lay_r1) (goodIn_app (gr_wsX10_lay_r2) (goodIn_app (gr_wsX10_lay_r3) (gr_wsX10_lay_r4)))) (gu_X10))
theorem wd_492 : GW (.methodLink RL 57 yX10_lay) := ⟨in_wsL_law_r21 _ (List.mem_of_getElem? (i := 9) rfl), good_of_word (by decide +kernel)⟩
theorem wd_493 : GW (.instanceMethod yX10_lay) := ⟨in_wsL_law_r21 _ (List.mem_of_getElem? (i := 10) rfl), good_of_word (by decide +kernel)⟩
theorem wd_494 : GW (.selects RX10 yX10_lay yX10_lay) := ⟨in_wsL_law_r21 _ (List.mem_of_getElem? (i := 11) rfl), good_of_word (by decide +kernel)⟩
theorem gq_X10_lay : GoodIn lw_tbl (wsV RL 57 RX10 yX10_lay wsX10_lay) := goodIn_app (gi_cons wd_492 (gi_cons wd_493 (gi_cons wd_494 (gi_cons wd_140 gi_nil)))) gr_wsX10_lay
theorem wd_495 : GW (.code yX9_rank cX9_rank 1 (some .int)) := ⟨in_wsL_law_r22 _ (List.mem_of_getElem? (i := 2) rfl), good_of_word (by decide +kernel)⟩
theorem wd_496 : GW (.fieldLink RX9 196 "ParquetLayer$Laying" "number" "I") := ⟨in_wsL_law_r22 _ (List.mem_of_getElem? (i := 3) rfl), good_of_word (by decide +kernel)⟩
set_option maxRecDepth 20000 in
theorem gr_wsX9_rank : GoodIn lw_tbl wsX9_rank := gi_cons wd_495 (goodIn_app (goodIn_app (gi_cons wd_69 (gi_cons wd_311 (gi_cons wd_496 (gi_cons wd_85 (gi_cons wd_84 (gi_cons wd_83 (gi_cons wd_82 (gi_cons wd_81 (gi_cons wd_80 (gi_nil)))))))))) (gu_X9)) (gu_X3))
theorem wd_497 : GW (.methodLink RL 58 yX9_rank) := ⟨in_wsL_law_r21 _ (List.mem_of_getElem? (i := 23) rfl), good_of_word (by decide +kernel)⟩
theorem wd_498 : GW (.instanceMethod yX9_rank) := ⟨in_wsL_law_r22 _ (List.mem_of_getElem? (i := 0) rfl), good_of_word (by decide +kernel)⟩
theorem wd_499 : GW (.selects RX9 yX9_rank yX9_rank) := ⟨in_wsL_law_r22 _ (List.mem_of_getElem? (i := 1) rfl), good_of_word (by decide +kernel)⟩
theorem gq_X9_rank : GoodIn lw_tbl (wsV RL 58 RX9 yX9_rank wsX9_rank) := goodIn_app (gi_cons wd_497 (gi_cons wd_498 (gi_cons wd_499 (gi_cons wd_82 gi_nil)))) gr_wsX9_rank
theorem wd_500 : GW (.code yX10_rank cX10_rank 1 (some .int)) := ⟨in_wsL_law_r22 _ (List.mem_of_getElem? (i := 7) rfl), good_of_word (by decide +kernel)⟩
theorem wd_501 : GW (.code yX10_rankNow cX10_rankNow 2 (some .int)) := ⟨in_wsL_law_r22 _ (List.mem_of_getElem? (i := 11) rfl), good_of_word (by decide +kernel)⟩
theorem wd_502 : GW (.selects RX10 yX10_rankNow yX10_rankNow) := ⟨in_wsL_law_r22 _ (List.mem_of_getElem? (i := 10) rfl), good_of_word (by decide +kernel)⟩
theorem wd_503 : GW (.instanceMethod yX10_rankNow) := ⟨in_wsL_law_r22 _ (List.mem_of_getElem? (i := 9) rfl), good_of_word (by decide +kernel)⟩
theorem wd_504 : GW (.methodLink RX10 227 yX10_rankNow) := ⟨in_wsL_law_r22 _ (List.mem_of_getElem? (i := 8) rfl), good_of_word (by decide +kernel)⟩
set_option maxRecDepth 20000 in
theorem gr_wsX10_rank_r1 : GoodIn lw_tbl wsX10_rank_r1 := gi_cons wd_175 (gi_cons wd_316 (gi_cons wd_504 (gi_cons wd_503 (gi_cons wd_502 (gi_cons wd_140 (gi_cons wd_501 (gi_cons wd_174 (gi_cons wd_173 (gi_cons wd_404 (gi_cons wd_403 (gi_cons wd_402 (gi_cons wd_401 (gi_cons wd_400 (gi_cons wd_399 (gi_cons wd_398 (gi_cons wd_397 (gi_cons wd_396 (gi_cons wd_395 (gi_cons wd_394 (gi_cons wd_129 (gi_cons wd_248 (gi_cons wd_247 (gi_cons wd_246 (gi_nil))))))))))))))))))))))))
set_option maxRecDepth 20000 in
theorem gr_wsX10_rank_r2 : GoodIn lw_tbl wsX10_rank_r2 := gi_cons wd_245 (gi_cons wd_161 (gi_cons wd_160 (gi_cons wd_159 (gi_cons wd_158 (gi_cons wd_63 (gi_cons wd_126 (gi_cons wd_125 (gi_cons wd_124 (gi_cons wd_123 (gi_cons wd_169 (gi_cons wd_168 (gi_cons wd_167 (gi_cons wd_166 (gi_cons wd_413 (gi_cons wd_412 (gi_cons wd_411 (gi_cons wd_410 (gi_cons wd_165 (gi_cons wd_164 (gi_cons wd_163 (gi_cons wd_162 (gi_cons wd_409 (gi_cons wd_408 (gi_nil))))))))))))))))))))))))
theorem wd_505 : GW (.code yX10_numberOf cX10_numberOf 10 (some .int)) := ⟨in_wsL_law_r22 _ (List.mem_of_getElem? (i := 15) rfl), good_of_word (by decide +kernel)⟩
theorem wd_506 : GW (.selects RX10 yX10_numberOf yX10_numberOf) := ⟨in_wsL_law_r22 _ (List.mem_of_getElem? (i := 14) rfl), good_of_word (by decide +kernel)⟩
theorem wd_507 : GW (.instanceMethod yX10_numberOf) := ⟨in_wsL_law_r22 _ (List.mem_of_getElem? (i := 13) rfl), good_of_word (by decide +kernel)⟩
theorem wd_508 : GW (.methodLink RX10 223 yX10_numberOf) := ⟨in_wsL_law_r22 _ (List.mem_of_getElem? (i := 12) rfl), good_of_word (by decide +kernel)⟩
set_option maxRecDepth 20000 in
theorem gr_wsX10_rank_r3 : GoodIn lw_tbl wsX10_rank_r3 := gi_cons wd_407 (gi_cons wd_406 (gi_cons wd_50 (gi_cons wd_145 (gi_cons wd_148 (gi_cons wd_147 (gi_cons wd_181 (gi_cons wd_405 (gi_cons wd_420 (gi_cons wd_419 (gi_cons wd_418 (gi_cons wd_143 (gi_cons wd_417 (gi_cons wd_416 (gi_cons wd_415 (gi_cons wd_414 (gi_cons wd_508 (gi_cons wd_507 (gi_cons wd_506 (gi_cons wd_505 (gi_cons wd_138 (gi_cons wd_137 (gi_cons wd_136 (gi_cons wd_135 (gi_nil))))))))))))))))))))))))
set_option maxRecDepth 20000 in
theorem gr_wsX10_rank_r4 : GoodIn lw_tbl wsX10_rank_r4 := gi_cons wd_134 (gi_nil)
set_option maxRecDepth 20000 in
theorem gr_wsX10_rank : GoodIn lw_tbl wsX10_rank := gi_cons wd_500 (goodIn_app (goodIn_app (gr_wsX10_rank_r1) (goodIn_app (gr_wsX10_rank_r2) (goodIn_app (gr_wsX10_rank_r3) (gr_wsX10_rank_r4)))) (gu_X10))
theorem wd_509 : GW (.methodLink RL 61 yX10_rank) := ⟨in_wsL_law_r22 _ (List.mem_of_getElem? (i := 4) rfl), good_of_word (by decide +kernel)⟩
theorem wd_510 : GW (.instanceMethod yX10_rank) := ⟨in_wsL_law_r22 _ (List.mem_of_getElem? (i := 5) rfl), good_of_word (by decide +kernel)⟩
theorem wd_511 : GW (.selects RX10 yX10_rank yX10_rank) := ⟨in_wsL_law_r22 _ (List.mem_of_getElem? (i := 6) rfl), good_of_word (by decide +kernel)⟩
theorem gq_X10_rank : GoodIn lw_tbl (wsV RL 61 RX10 yX10_rank wsX10_rank) := goodIn_app (gi_cons wd_509 (gi_cons wd_510 (gi_cons wd_511 (gi_cons wd_140 gi_nil)))) gr_wsX10_rank
theorem wd_512 : GW (.code yX9_next cX9_next 1 (some .int)) := ⟨in_wsL_law_r22 _ (List.mem_of_getElem? (i := 19) rfl), good_of_word (by decide +kernel)⟩
set_option maxRecDepth 20000 in
theorem gr_wsX9_next_r1 : GoodIn lw_tbl wsX9_next_r1 := gi_cons wd_69 (gi_cons wd_496 (gi_cons wd_311 (gi_cons wd_449 (gi_cons wd_448 (gi_cons wd_447 (gi_cons wd_82 (gi_cons wd_446 (gi_cons wd_369 (gi_cons wd_368 (gi_cons wd_367 (gi_cons wd_366 (gi_cons wd_365 (gi_cons wd_364 (gi_cons wd_363 (gi_cons wd_362 (gi_cons wd_88 (gi_cons wd_86 (gi_cons wd_361 (gi_cons wd_360 (gi_cons wd_359 (gi_cons wd_23 (gi_cons wd_22 (gi_cons wd_42 (gi_nil))))))))))))))))))))))))
set_option maxRecDepth 20000 in
theorem gr_wsX9_next_r2 : GoodIn lw_tbl wsX9_next_r2 := gi_cons wd_358 (gi_cons wd_357 (gi_cons wd_227 (gi_cons wd_226 (gi_cons wd_225 (gi_cons wd_224 (gi_cons wd_75 (gi_cons wd_74 (gi_cons wd_72 (gi_cons wd_223 (gi_cons wd_222 (gi_cons wd_221 (gi_cons wd_220 (gi_cons wd_219 (gi_cons wd_218 (gi_cons wd_217 (gi_cons wd_216 (gi_cons wd_382 (gi_cons wd_381 (gi_cons wd_380 (gi_cons wd_379 (gi_cons wd_378 (gi_cons wd_377 (gi_cons wd_376 (gi_nil))))))))))))))))))))))))
set_option maxRecDepth 20000 in
theorem gr_wsX9_next_r3 : GoodIn lw_tbl wsX9_next_r3 := gi_cons wd_375 (gi_cons wd_374 (gi_cons wd_373 (gi_cons wd_372 (gi_cons wd_371 (gi_cons wd_370 (gi_cons wd_190 (gi_cons wd_66 (gi_cons wd_189 (gi_cons wd_389 (gi_cons wd_388 (gi_cons wd_387 (gi_cons wd_386 (gi_cons wd_385 (gi_cons wd_384 (gi_cons wd_383 (gi_cons wd_85 (gi_cons wd_84 (gi_cons wd_83 (gi_cons wd_81 (gi_cons wd_80 (gi_cons wd_453 (gi_cons wd_452 (gi_cons wd_451 (gi_nil))))))))))))))))))))))))
set_option maxRecDepth 20000 in
theorem gr_wsX9_next_r4 : GoodIn lw_tbl wsX9_next_r4 := gi_cons wd_450 (gi_cons wd_472 (gi_cons wd_471 (gi_cons wd_347 (gi_cons wd_470 (gi_cons wd_469 (gi_cons wd_468 (gi_cons wd_467 (gi_cons wd_466 (gi_cons wd_465 (gi_cons wd_464 (gi_cons wd_463 (gi_cons wd_462 (gi_cons wd_461 (gi_cons wd_460 (gi_cons wd_459 (gi_cons wd_458 (gi_cons wd_457 (gi_cons wd_456 (gi_cons wd_455 (gi_cons wd_433 (gi_cons wd_454 (gi_cons wd_431 (gi_cons wd_430 (gi_nil))))))))))))))))))))))))
set_option maxRecDepth 20000 in
theorem gr_wsX9_next_r5 : GoodIn lw_tbl wsX9_next_r5 := gi_cons wd_429 (gi_cons wd_428 (gi_cons wd_341 (gi_cons wd_342 (gi_cons wd_477 (gi_cons wd_476 (gi_cons wd_475 (gi_cons wd_474 (gi_cons wd_473 (gi_cons wd_344 (gi_cons wd_345 (gi_nil)))))))))))
set_option maxRecDepth 20000 in
theorem gr_wsX9_next : GoodIn lw_tbl wsX9_next := gi_cons wd_512 (goodIn_app (goodIn_app (goodIn_app (goodIn_app (goodIn_app (gr_wsX9_next_r1) (goodIn_app (gr_wsX9_next_r2) (goodIn_app (gr_wsX9_next_r3) (goodIn_app (gr_wsX9_next_r4) (gr_wsX9_next_r5))))) (gu_X9)) (gu_X3)) (gu_X4)) (gu_X7))
theorem wd_513 : GW (.methodLink RL 62 yX9_next) := ⟨in_wsL_law_r22 _ (List.mem_of_getElem? (i := 16) rfl), good_of_word (by decide +kernel)⟩
theorem wd_514 : GW (.instanceMethod yX9_next) := ⟨in_wsL_law_r22 _ (List.mem_of_getElem? (i := 17) rfl), good_of_word (by decide +kernel)⟩
theorem wd_515 : GW (.selects RX9 yX9_next yX9_next) := ⟨in_wsL_law_r22 _ (List.mem_of_getElem? (i := 18) rfl), good_of_word (by decide +kernel)⟩
theorem gq_X9_next : GoodIn lw_tbl (wsV RL 62 RX9 yX9_next wsX9_next) := goodIn_app (gi_cons wd_513 (gi_cons wd_514 (gi_cons wd_515 (gi_cons wd_82 gi_nil)))) gr_wsX9_next
theorem wd_516 : GW (.code yX10_next cX10_next 2 (some .int)) := ⟨in_wsL_law_r22 _ (List.mem_of_getElem? (i := 23) rfl), good_of_word (by decide +kernel)⟩
set_option maxRecDepth 20000 in
theorem gr_wsX10_next_r1 : GoodIn lw_tbl wsX10_next_r1 := gi_cons wd_175 (gi_cons wd_316 (gi_cons wd_138 (gi_cons wd_137 (gi_cons wd_136 (gi_cons wd_140 (gi_cons wd_135 (gi_cons wd_134 (gi_cons wd_504 (gi_cons wd_503 (gi_cons wd_502 (gi_cons wd_501 (gi_cons wd_174 (gi_cons wd_173 (gi_cons wd_404 (gi_cons wd_403 (gi_cons wd_402 (gi_cons wd_401 (gi_cons wd_400 (gi_cons wd_399 (gi_cons wd_398 (gi_cons wd_397 (gi_cons wd_396 (gi_cons wd_395 (gi_nil))))))))))))))))))))))))
set_option maxRecDepth 20000 in
theorem gr_wsX10_next_r2 : GoodIn lw_tbl wsX10_next_r2 := gi_cons wd_394 (gi_cons wd_129 (gi_cons wd_248 (gi_cons wd_247 (gi_cons wd_246 (gi_cons wd_245 (gi_cons wd_161 (gi_cons wd_160 (gi_cons wd_159 (gi_cons wd_158 (gi_cons wd_63 (gi_cons wd_126 (gi_cons wd_125 (gi_cons wd_124 (gi_cons wd_123 (gi_cons wd_169 (gi_cons wd_168 (gi_cons wd_167 (gi_cons wd_166 (gi_cons wd_413 (gi_cons wd_412 (gi_cons wd_411 (gi_cons wd_410 (gi_cons wd_165 (gi_nil))))))))))))))))))))))))
set_option maxRecDepth 20000 in
theorem gr_wsX10_next_r3 : GoodIn lw_tbl wsX10_next_r3 := gi_cons wd_164 (gi_cons wd_163 (gi_cons wd_162 (gi_cons wd_409 (gi_cons wd_408 (gi_cons wd_407 (gi_cons wd_406 (gi_cons wd_50 (gi_cons wd_145 (gi_cons wd_148 (gi_cons wd_147 (gi_cons wd_181 (gi_cons wd_405 (gi_cons wd_420 (gi_cons wd_419 (gi_cons wd_418 (gi_cons wd_143 (gi_cons wd_417 (gi_cons wd_416 (gi_cons wd_415 (gi_cons wd_414 (gi_cons wd_508 (gi_cons wd_507 (gi_cons wd_506 (gi_nil))))))))))))))))))))))))
set_option maxRecDepth 20000 in
theorem gr_wsX10_next_r4 : GoodIn lw_tbl wsX10_next_r4 := gi_cons wd_505 (gi_cons wd_488 (gi_cons wd_487 (gi_cons wd_486 (gi_cons wd_485 (gi_cons wd_484 (gi_cons wd_483 (gi_cons wd_482 (gi_cons wd_491 (gi_cons wd_490 (gi_cons wd_489 (gi_nil)))))))))))
set_option maxRecDepth 20000 in
theorem gr_wsX10_next : GoodIn lw_tbl wsX10_next := gi_cons wd_516 (goodIn_app (goodIn_app (gr_wsX10_next_r1) (goodIn_app (gr_wsX10_next_r2) (goodIn_app (gr_wsX10_next_r3) (gr_wsX10_next_r4)))) (gu_X10))
theorem wd_517 : GW (.methodLink RL 65 yX10_next) := ⟨in_wsL_law_r22 _ (List.mem_of_getElem? (i := 20) rfl), good_of_word (by decide +kernel)⟩
theorem wd_518 : GW (.instanceMethod yX10_next) := ⟨in_wsL_law_r22 _ (List.mem_of_getElem? (i := 21) rfl), good_of_word (by decide +kernel)⟩
theorem wd_519 : GW (.selects RX10 yX10_next yX10_next) := ⟨in_wsL_law_r22 _ (List.mem_of_getElem? (i := 22) rfl), good_of_word (by decide +kernel)⟩
theorem gq_X10_next : GoodIn lw_tbl (wsV RL 65 RX10 yX10_next wsX10_next) := goodIn_app (gi_cons wd_517 (gi_cons wd_518 (gi_cons wd_519 (gi_cons wd_140 gi_nil)))) gr_wsX10_next
theorem wd_520 : GW (.code yX9_draw cX9_draw 3 (some .int)) := ⟨in_wsL_law_r23 _ (List.mem_of_getElem? (i := 3) rfl), good_of_word (by decide +kernel)⟩
set_option maxRecDepth 20000 in
theorem gr_wsX9_draw_r1 : GoodIn lw_tbl wsX9_draw_r1 := gi_cons wd_311 (gi_cons wd_69 (gi_cons wd_496 (gi_cons wd_369 (gi_cons wd_368 (gi_cons wd_367 (gi_cons wd_82 (gi_cons wd_366 (gi_cons wd_365 (gi_cons wd_364 (gi_cons wd_363 (gi_cons wd_362 (gi_cons wd_88 (gi_cons wd_86 (gi_cons wd_361 (gi_cons wd_360 (gi_cons wd_359 (gi_cons wd_23 (gi_cons wd_22 (gi_cons wd_42 (gi_cons wd_358 (gi_cons wd_357 (gi_cons wd_227 (gi_cons wd_226 (gi_nil))))))))))))))))))))))))
set_option maxRecDepth 20000 in
theorem gr_wsX9_draw_r2 : GoodIn lw_tbl wsX9_draw_r2 := gi_cons wd_225 (gi_cons wd_224 (gi_cons wd_75 (gi_cons wd_74 (gi_cons wd_72 (gi_cons wd_223 (gi_cons wd_222 (gi_cons wd_221 (gi_cons wd_220 (gi_cons wd_219 (gi_cons wd_218 (gi_cons wd_217 (gi_cons wd_216 (gi_cons wd_382 (gi_cons wd_381 (gi_cons wd_380 (gi_cons wd_379 (gi_cons wd_378 (gi_cons wd_377 (gi_cons wd_376 (gi_cons wd_375 (gi_cons wd_374 (gi_cons wd_373 (gi_cons wd_372 (gi_nil))))))))))))))))))))))))
theorem wd_521 : GW (.constant RX9 356 (1103515245)) := ⟨in_wsL_law_r23 _ (List.mem_of_getElem? (i := 8) rfl), good_of_word (by decide +kernel)⟩
theorem wd_522 : GW (.constant RX9 355 (1000000)) := ⟨in_wsL_law_r23 _ (List.mem_of_getElem? (i := 7) rfl), good_of_word (by decide +kernel)⟩
theorem wd_523 : GW (.code yX9_drawnNumber cX9_drawnNumber 7 (some .int)) := ⟨in_wsL_law_r23 _ (List.mem_of_getElem? (i := 6) rfl), good_of_word (by decide +kernel)⟩
theorem wd_524 : GW (.static yX9_drawnNumber) := ⟨in_wsL_law_r23 _ (List.mem_of_getElem? (i := 5) rfl), good_of_word (by decide +kernel)⟩
theorem wd_525 : GW (.methodLink RX9 197 yX9_drawnNumber) := ⟨in_wsL_law_r23 _ (List.mem_of_getElem? (i := 4) rfl), good_of_word (by decide +kernel)⟩
set_option maxRecDepth 20000 in
theorem gr_wsX9_draw_r3 : GoodIn lw_tbl wsX9_draw_r3 := gi_cons wd_371 (gi_cons wd_370 (gi_cons wd_190 (gi_cons wd_66 (gi_cons wd_189 (gi_cons wd_389 (gi_cons wd_388 (gi_cons wd_387 (gi_cons wd_386 (gi_cons wd_385 (gi_cons wd_384 (gi_cons wd_383 (gi_cons wd_85 (gi_cons wd_84 (gi_cons wd_83 (gi_cons wd_81 (gi_cons wd_80 (gi_cons wd_525 (gi_cons wd_524 (gi_cons wd_523 (gi_cons wd_522 (gi_cons wd_521 (gi_cons wd_453 (gi_cons wd_452 (gi_nil))))))))))))))))))))))))
set_option maxRecDepth 20000 in
theorem gr_wsX9_draw_r4 : GoodIn lw_tbl wsX9_draw_r4 := gi_cons wd_451 (gi_cons wd_450 (gi_cons wd_472 (gi_cons wd_471 (gi_cons wd_347 (gi_cons wd_470 (gi_cons wd_469 (gi_cons wd_468 (gi_cons wd_467 (gi_cons wd_466 (gi_cons wd_465 (gi_cons wd_464 (gi_cons wd_463 (gi_cons wd_462 (gi_cons wd_461 (gi_cons wd_460 (gi_cons wd_459 (gi_cons wd_458 (gi_cons wd_457 (gi_cons wd_456 (gi_cons wd_455 (gi_cons wd_433 (gi_cons wd_454 (gi_cons wd_431 (gi_nil))))))))))))))))))))))))
set_option maxRecDepth 20000 in
theorem gr_wsX9_draw_r5 : GoodIn lw_tbl wsX9_draw_r5 := gi_cons wd_430 (gi_cons wd_429 (gi_cons wd_428 (gi_cons wd_341 (gi_cons wd_342 (gi_cons wd_477 (gi_cons wd_476 (gi_cons wd_475 (gi_cons wd_474 (gi_cons wd_473 (gi_cons wd_344 (gi_cons wd_345 (gi_nil))))))))))))
set_option maxRecDepth 20000 in
theorem gr_wsX9_draw : GoodIn lw_tbl wsX9_draw := gi_cons wd_520 (goodIn_app (goodIn_app (goodIn_app (goodIn_app (goodIn_app (gr_wsX9_draw_r1) (goodIn_app (gr_wsX9_draw_r2) (goodIn_app (gr_wsX9_draw_r3) (goodIn_app (gr_wsX9_draw_r4) (gr_wsX9_draw_r5))))) (gu_X9)) (gu_X3)) (gu_X4)) (gu_X7))
theorem wd_526 : GW (.methodLink RL 66 yX9_draw) := ⟨in_wsL_law_r23 _ (List.mem_of_getElem? (i := 0) rfl), good_of_word (by decide +kernel)⟩
theorem wd_527 : GW (.instanceMethod yX9_draw) := ⟨in_wsL_law_r23 _ (List.mem_of_getElem? (i := 1) rfl), good_of_word (by decide +kernel)⟩
theorem wd_528 : GW (.selects RX9 yX9_draw yX9_draw) := ⟨in_wsL_law_r23 _ (List.mem_of_getElem? (i := 2) rfl), good_of_word (by decide +kernel)⟩
theorem gq_X9_draw : GoodIn lw_tbl (wsV RL 66 RX9 yX9_draw wsX9_draw) := goodIn_app (gi_cons wd_526 (gi_cons wd_527 (gi_cons wd_528 (gi_cons wd_82 gi_nil)))) gr_wsX9_draw
theorem wd_529 : GW (.code yX10_draw cX10_draw 7 (some .int)) := ⟨in_wsL_law_r23 _ (List.mem_of_getElem? (i := 12) rfl), good_of_word (by decide +kernel)⟩
theorem wd_530 : GW (.constant RX10 230 (1103515245)) := ⟨in_wsL_law_r23 _ (List.mem_of_getElem? (i := 13) rfl), good_of_word (by decide +kernel)⟩
set_option maxRecDepth 20000 in
theorem gr_wsX10_draw_r1 : GoodIn lw_tbl wsX10_draw_r1 := gi_cons wd_316 (gi_cons wd_530 (gi_cons wd_404 (gi_cons wd_403 (gi_cons wd_402 (gi_cons wd_140 (gi_cons wd_401 (gi_cons wd_400 (gi_cons wd_399 (gi_cons wd_398 (gi_cons wd_397 (gi_cons wd_396 (gi_cons wd_395 (gi_cons wd_394 (gi_cons wd_129 (gi_cons wd_248 (gi_cons wd_247 (gi_cons wd_246 (gi_cons wd_245 (gi_cons wd_161 (gi_cons wd_160 (gi_cons wd_159 (gi_cons wd_158 (gi_cons wd_63 (gi_nil))))))))))))))))))))))))
set_option maxRecDepth 20000 in
theorem gr_wsX10_draw_r2 : GoodIn lw_tbl wsX10_draw_r2 := gi_cons wd_126 (gi_cons wd_125 (gi_cons wd_124 (gi_cons wd_123 (gi_cons wd_169 (gi_cons wd_168 (gi_cons wd_167 (gi_cons wd_166 (gi_cons wd_413 (gi_cons wd_412 (gi_cons wd_411 (gi_cons wd_410 (gi_cons wd_165 (gi_cons wd_164 (gi_cons wd_163 (gi_cons wd_162 (gi_cons wd_409 (gi_cons wd_408 (gi_cons wd_407 (gi_cons wd_406 (gi_cons wd_50 (gi_cons wd_145 (gi_cons wd_148 (gi_cons wd_147 (gi_nil))))))))))))))))))))))))
set_option maxRecDepth 20000 in
theorem gr_wsX10_draw_r3 : GoodIn lw_tbl wsX10_draw_r3 := gi_cons wd_181 (gi_cons wd_405 (gi_cons wd_420 (gi_cons wd_419 (gi_cons wd_418 (gi_cons wd_143 (gi_cons wd_417 (gi_cons wd_416 (gi_cons wd_415 (gi_cons wd_414 (gi_cons wd_138 (gi_cons wd_137 (gi_cons wd_136 (gi_cons wd_135 (gi_cons wd_134 (gi_cons wd_488 (gi_cons wd_487 (gi_cons wd_486 (gi_cons wd_485 (gi_cons wd_484 (gi_cons wd_174 (gi_cons wd_483 (gi_cons wd_173 (gi_cons wd_175 (gi_nil))))))))))))))))))))))))
set_option maxRecDepth 20000 in
theorem gr_wsX10_draw_r4 : GoodIn lw_tbl wsX10_draw_r4 := gi_cons wd_482 (gi_cons wd_491 (gi_cons wd_490 (gi_cons wd_489 (gi_nil))))
set_option maxRecDepth 20000 in
theorem gr_wsX10_draw : GoodIn lw_tbl wsX10_draw := gi_cons wd_529 (goodIn_app (goodIn_app (gr_wsX10_draw_r1) (goodIn_app (gr_wsX10_draw_r2) (goodIn_app (gr_wsX10_draw_r3) (gr_wsX10_draw_r4)))) (gu_X10))
theorem wd_531 : GW (.methodLink RL 69 yX10_draw) := ⟨in_wsL_law_r23 _ (List.mem_of_getElem? (i := 9) rfl), good_of_word (by decide +kernel)⟩
theorem wd_532 : GW (.instanceMethod yX10_draw) := ⟨in_wsL_law_r23 _ (List.mem_of_getElem? (i := 10) rfl), good_of_word (by decide +kernel)⟩
theorem wd_533 : GW (.selects RX10 yX10_draw yX10_draw) := ⟨in_wsL_law_r23 _ (List.mem_of_getElem? (i := 11) rfl), good_of_word (by decide +kernel)⟩
theorem gq_X10_draw : GoodIn lw_tbl (wsV RL 69 RX10 yX10_draw wsX10_draw) := goodIn_app (gi_cons wd_531 (gi_cons wd_532 (gi_cons wd_533 (gi_cons wd_140 gi_nil)))) gr_wsX10_draw
theorem wd_534 : GW (.code yX9_partner cX9_partner 2 (some .int)) := ⟨in_wsL_law_r23 _ (List.mem_of_getElem? (i := 17) rfl), good_of_word (by decide +kernel)⟩
theorem wd_535 : GW (.code yX3_otherField cX3_otherField 2 (some .int)) := ⟨in_wsL_law_r23 _ (List.mem_of_getElem? (i := 21) rfl), good_of_word (by decide +kernel)⟩
theorem wd_536 : GW (.selects RX3 yX3_otherField yX3_otherField) := ⟨in_wsL_law_r23 _ (List.mem_of_getElem? (i := 20) rfl), good_of_word (by decide +kernel)⟩
theorem wd_537 : GW (.instanceMethod yX3_otherField) := ⟨in_wsL_law_r23 _ (List.mem_of_getElem? (i := 19) rfl), good_of_word (by decide +kernel)⟩
theorem wd_538 : GW (.methodLink RX9 201 yX3_otherField) := ⟨in_wsL_law_r23 _ (List.mem_of_getElem? (i := 18) rfl), good_of_word (by decide +kernel)⟩
set_option maxRecDepth 20000 in
theorem gr_wsX9_partner_r1 : GoodIn lw_tbl wsX9_partner_r1 := gi_cons wd_89 (gi_cons wd_69 (gi_cons wd_88 (gi_cons wd_311 (gi_cons wd_194 (gi_cons wd_193 (gi_cons wd_66 (gi_cons wd_192 (gi_cons wd_85 (gi_cons wd_84 (gi_cons wd_83 (gi_cons wd_82 (gi_cons wd_81 (gi_cons wd_80 (gi_cons wd_191 (gi_cons wd_190 (gi_cons wd_189 (gi_cons wd_538 (gi_cons wd_537 (gi_cons wd_536 (gi_cons wd_347 (gi_cons wd_535 (gi_cons wd_344 (gi_cons wd_345 (gi_nil))))))))))))))))))))))))
set_option maxRecDepth 20000 in
theorem gr_wsX9_partner_r2 : GoodIn lw_tbl wsX9_partner_r2 := gi_cons wd_343 (gi_nil)
set_option maxRecDepth 20000 in
theorem gr_wsX9_partner : GoodIn lw_tbl wsX9_partner := gi_cons wd_534 (goodIn_app (goodIn_app (goodIn_app (gr_wsX9_partner_r1) (gr_wsX9_partner_r2)) (gu_X9)) (gu_X3))
theorem wd_539 : GW (.methodLink RL 70 yX9_partner) := ⟨in_wsL_law_r23 _ (List.mem_of_getElem? (i := 14) rfl), good_of_word (by decide +kernel)⟩
theorem wd_540 : GW (.instanceMethod yX9_partner) := ⟨in_wsL_law_r23 _ (List.mem_of_getElem? (i := 15) rfl), good_of_word (by decide +kernel)⟩
theorem wd_541 : GW (.selects RX9 yX9_partner yX9_partner) := ⟨in_wsL_law_r23 _ (List.mem_of_getElem? (i := 16) rfl), good_of_word (by decide +kernel)⟩
theorem gq_X9_partner : GoodIn lw_tbl (wsV RL 70 RX9 yX9_partner wsX9_partner) := goodIn_app (gi_cons wd_539 (gi_cons wd_540 (gi_cons wd_541 (gi_cons wd_82 gi_nil)))) gr_wsX9_partner
theorem wd_542 : GW (.code yX10_partner cX10_partner 2 (some .int)) := ⟨in_wsL_law_r24 _ (List.mem_of_getElem? (i := 1) rfl), good_of_word (by decide +kernel)⟩
set_option maxRecDepth 20000 in
theorem gr_wsX10_partner : GoodIn lw_tbl wsX10_partner := gi_cons wd_542 (goodIn_app (gi_cons wd_146 (gi_cons wd_175 (gi_cons wd_145 (gi_cons wd_316 (gi_cons wd_174 (gi_cons wd_173 (gi_cons wd_201 (gi_cons wd_200 (gi_cons wd_140 (gi_cons wd_199 (gi_cons wd_142 (gi_cons wd_141 (gi_cons wd_139 (gi_cons wd_138 (gi_cons wd_137 (gi_cons wd_136 (gi_cons wd_135 (gi_cons wd_134 (gi_cons wd_148 (gi_cons wd_147 (gi_cons wd_181 (gi_nil)))))))))))))))))))))) (gu_X10))
theorem wd_543 : GW (.methodLink RL 73 yX10_partner) := ⟨in_wsL_law_r23 _ (List.mem_of_getElem? (i := 22) rfl), good_of_word (by decide +kernel)⟩
theorem wd_544 : GW (.instanceMethod yX10_partner) := ⟨in_wsL_law_r23 _ (List.mem_of_getElem? (i := 23) rfl), good_of_word (by decide +kernel)⟩
theorem wd_545 : GW (.selects RX10 yX10_partner yX10_partner) := ⟨in_wsL_law_r24 _ (List.mem_of_getElem? (i := 0) rfl), good_of_word (by decide +kernel)⟩
theorem gq_X10_partner : GoodIn lw_tbl (wsV RL 73 RX10 yX10_partner wsX10_partner) := goodIn_app (gi_cons wd_543 (gi_cons wd_544 (gi_cons wd_545 (gi_cons wd_140 gi_nil)))) gr_wsX10_partner
theorem wd_546 : GW (.code yX9_turns cX9_turns 1 (some .int)) := ⟨in_wsL_law_r24 _ (List.mem_of_getElem? (i := 5) rfl), good_of_word (by decide +kernel)⟩
set_option maxRecDepth 20000 in
theorem gr_wsX9_turns_r1 : GoodIn lw_tbl wsX9_turns_r1 := gi_cons wd_69 (gi_cons wd_311 (gi_cons wd_10 (gi_cons wd_85 (gi_cons wd_84 (gi_cons wd_83 (gi_cons wd_82 (gi_cons wd_81 (gi_cons wd_80 (gi_cons wd_227 (gi_cons wd_226 (gi_cons wd_225 (gi_cons wd_224 (gi_cons wd_75 (gi_cons wd_74 (gi_cons wd_72 (gi_cons wd_223 (gi_cons wd_222 (gi_cons wd_221 (gi_cons wd_220 (gi_cons wd_219 (gi_cons wd_218 (gi_cons wd_217 (gi_cons wd_216 (gi_nil))))))))))))))))))))))))
theorem wd_547 : GW (.code yX8_isCorner cX8_isCorner 1 (some .boolean)) := ⟨in_wsL_law_r25 _ (List.mem_of_getElem? (i := 1) rfl), good_of_word (by decide +kernel)⟩
theorem wd_548 : GW (.static yX8_isCorner) := ⟨in_wsL_law_r25 _ (List.mem_of_getElem? (i := 0) rfl), good_of_word (by decide +kernel)⟩
theorem wd_549 : GW (.methodLink RX8 22 yX8_isCorner) := ⟨in_wsL_law_r24 _ (List.mem_of_getElem? (i := 23) rfl), good_of_word (by decide +kernel)⟩
theorem wd_550 : GW (.code yX8_lying cX8_lying 6 (some .int)) := ⟨in_wsL_law_r24 _ (List.mem_of_getElem? (i := 22) rfl), good_of_word (by decide +kernel)⟩
theorem wd_551 : GW (.selects RX8 yX8_lying yX8_lying) := ⟨in_wsL_law_r24 _ (List.mem_of_getElem? (i := 21) rfl), good_of_word (by decide +kernel)⟩
theorem wd_552 : GW (.instanceMethod yX8_lying) := ⟨in_wsL_law_r24 _ (List.mem_of_getElem? (i := 20) rfl), good_of_word (by decide +kernel)⟩
theorem wd_553 : GW (.methodLink RX8 26 yX8_lying) := ⟨in_wsL_law_r24 _ (List.mem_of_getElem? (i := 19) rfl), good_of_word (by decide +kernel)⟩
theorem wd_554 : GW (.code yX8_possible cX8_possible 3 (some .int)) := ⟨in_wsL_law_r24 _ (List.mem_of_getElem? (i := 18) rfl), good_of_word (by decide +kernel)⟩
theorem wd_555 : GW (.selects RX8 yX8_possible yX8_possible) := ⟨in_wsL_law_r24 _ (List.mem_of_getElem? (i := 17) rfl), good_of_word (by decide +kernel)⟩
theorem wd_556 : GW (.instanceMethod yX8_possible) := ⟨in_wsL_law_r24 _ (List.mem_of_getElem? (i := 16) rfl), good_of_word (by decide +kernel)⟩
theorem wd_557 : GW (.methodLink RX9 208 yX8_possible) := ⟨in_wsL_law_r24 _ (List.mem_of_getElem? (i := 15) rfl), good_of_word (by decide +kernel)⟩
theorem wd_558 : GW (.fieldLink RX8 21 "ParquetLayer$Turner" "across" "J") := ⟨in_wsL_law_r24 _ (List.mem_of_getElem? (i := 14) rfl), good_of_word (by decide +kernel)⟩
theorem wd_559 : GW (.fieldLink RX8 18 "ParquetLayer$Laying" "across" "J") := ⟨in_wsL_law_r24 _ (List.mem_of_getElem? (i := 13) rfl), good_of_word (by decide +kernel)⟩
theorem wd_560 : GW (.fieldLink RX8 17 "ParquetLayer$Turner" "along" "J") := ⟨in_wsL_law_r24 _ (List.mem_of_getElem? (i := 12) rfl), good_of_word (by decide +kernel)⟩
theorem wd_561 : GW (.constantLong RX8 15 (-1)) := ⟨in_wsL_law_r24 _ (List.mem_of_getElem? (i := 11) rfl), good_of_word (by decide +kernel)⟩
theorem wd_562 : GW (.fieldLink RX8 9 "ParquetLayer$Laying" "along" "J") := ⟨in_wsL_law_r24 _ (List.mem_of_getElem? (i := 10) rfl), good_of_word (by decide +kernel)⟩
theorem wd_563 : GW (.code yX8_start cX8_start 4 none) := ⟨in_wsL_law_r24 _ (List.mem_of_getElem? (i := 9) rfl), good_of_word (by decide +kernel)⟩
theorem wd_564 : GW (.selects RX8 yX8_start yX8_start) := ⟨in_wsL_law_r24 _ (List.mem_of_getElem? (i := 8) rfl), good_of_word (by decide +kernel)⟩
theorem wd_565 : GW (.instanceMethod yX8_start) := ⟨in_wsL_law_r24 _ (List.mem_of_getElem? (i := 7) rfl), good_of_word (by decide +kernel)⟩
theorem wd_566 : GW (.methodLink RX9 204 yX8_start) := ⟨in_wsL_law_r24 _ (List.mem_of_getElem? (i := 6) rfl), good_of_word (by decide +kernel)⟩
set_option maxRecDepth 20000 in
theorem gr_wsX9_turns_r2 : GoodIn lw_tbl wsX9_turns_r2 := gi_cons wd_566 (gi_cons wd_565 (gi_cons wd_564 (gi_cons wd_11 (gi_cons wd_563 (gi_cons wd_562 (gi_cons wd_561 (gi_cons wd_560 (gi_cons wd_559 (gi_cons wd_558 (gi_cons wd_557 (gi_cons wd_556 (gi_cons wd_555 (gi_cons wd_554 (gi_cons wd_553 (gi_cons wd_552 (gi_cons wd_551 (gi_cons wd_550 (gi_cons wd_549 (gi_cons wd_548 (gi_cons wd_547 (gi_nil)))))))))))))))))))))
set_option maxRecDepth 20000 in
theorem gr_wsX9_turns : GoodIn lw_tbl wsX9_turns := gi_cons wd_546 (goodIn_app (goodIn_app (goodIn_app (goodIn_app (goodIn_app (gr_wsX9_turns_r1) (gr_wsX9_turns_r2)) (gu_X9)) (gu_X7)) (gu_X3)) (gu_X8))
theorem wd_567 : GW (.methodLink RL 74 yX9_turns) := ⟨in_wsL_law_r24 _ (List.mem_of_getElem? (i := 2) rfl), good_of_word (by decide +kernel)⟩
theorem wd_568 : GW (.instanceMethod yX9_turns) := ⟨in_wsL_law_r24 _ (List.mem_of_getElem? (i := 3) rfl), good_of_word (by decide +kernel)⟩
theorem wd_569 : GW (.selects RX9 yX9_turns yX9_turns) := ⟨in_wsL_law_r24 _ (List.mem_of_getElem? (i := 4) rfl), good_of_word (by decide +kernel)⟩
theorem gq_X9_turns : GoodIn lw_tbl (wsV RL 74 RX9 yX9_turns wsX9_turns) := goodIn_app (gi_cons wd_567 (gi_cons wd_568 (gi_cons wd_569 (gi_cons wd_82 gi_nil)))) gr_wsX9_turns
theorem wd_570 : GW (.code yX10_turns cX10_turns 3 (some .int)) := ⟨in_wsL_law_r25 _ (List.mem_of_getElem? (i := 5) rfl), good_of_word (by decide +kernel)⟩
set_option maxRecDepth 20000 in
theorem gr_wsX10_turns_r1 : GoodIn lw_tbl wsX10_turns_r1 := gi_cons wd_175 (gi_cons wd_316 (gi_cons wd_174 (gi_cons wd_173 (gi_cons wd_138 (gi_cons wd_137 (gi_cons wd_136 (gi_cons wd_140 (gi_cons wd_135 (gi_cons wd_134 (gi_cons wd_400 (gi_cons wd_399 (gi_cons wd_398 (gi_cons wd_397 (gi_cons wd_396 (gi_cons wd_395 (gi_cons wd_394 (gi_cons wd_129 (gi_cons wd_248 (gi_cons wd_247 (gi_cons wd_246 (gi_cons wd_245 (gi_cons wd_161 (gi_cons wd_160 (gi_nil))))))))))))))))))))))))
theorem wd_571 : GW (.code yX10_turnAt cX10_turnAt 6 (some .int)) := ⟨in_wsL_law_r25 _ (List.mem_of_getElem? (i := 9) rfl), good_of_word (by decide +kernel)⟩
theorem wd_572 : GW (.selects RX10 yX10_turnAt yX10_turnAt) := ⟨in_wsL_law_r25 _ (List.mem_of_getElem? (i := 8) rfl), good_of_word (by decide +kernel)⟩
theorem wd_573 : GW (.instanceMethod yX10_turnAt) := ⟨in_wsL_law_r25 _ (List.mem_of_getElem? (i := 7) rfl), good_of_word (by decide +kernel)⟩
theorem wd_574 : GW (.methodLink RX10 231 yX10_turnAt) := ⟨in_wsL_law_r25 _ (List.mem_of_getElem? (i := 6) rfl), good_of_word (by decide +kernel)⟩
set_option maxRecDepth 20000 in
theorem gr_wsX10_turns_r2 : GoodIn lw_tbl wsX10_turns_r2 := gi_cons wd_159 (gi_cons wd_158 (gi_cons wd_63 (gi_cons wd_126 (gi_cons wd_125 (gi_cons wd_124 (gi_cons wd_123 (gi_cons wd_169 (gi_cons wd_168 (gi_cons wd_167 (gi_cons wd_166 (gi_cons wd_413 (gi_cons wd_412 (gi_cons wd_411 (gi_cons wd_410 (gi_cons wd_165 (gi_cons wd_164 (gi_cons wd_163 (gi_cons wd_162 (gi_cons wd_574 (gi_cons wd_573 (gi_cons wd_572 (gi_cons wd_571 (gi_cons wd_148 (gi_nil))))))))))))))))))))))))
set_option maxRecDepth 20000 in
theorem gr_wsX10_turns_r3 : GoodIn lw_tbl wsX10_turns_r3 := gi_cons wd_147 (gi_cons wd_181 (gi_nil))
set_option maxRecDepth 20000 in
theorem gr_wsX10_turns : GoodIn lw_tbl wsX10_turns := gi_cons wd_570 (goodIn_app (goodIn_app (gr_wsX10_turns_r1) (goodIn_app (gr_wsX10_turns_r2) (gr_wsX10_turns_r3))) (gu_X10))
theorem wd_575 : GW (.methodLink RL 77 yX10_turns) := ⟨in_wsL_law_r25 _ (List.mem_of_getElem? (i := 2) rfl), good_of_word (by decide +kernel)⟩
theorem wd_576 : GW (.instanceMethod yX10_turns) := ⟨in_wsL_law_r25 _ (List.mem_of_getElem? (i := 3) rfl), good_of_word (by decide +kernel)⟩
theorem wd_577 : GW (.selects RX10 yX10_turns yX10_turns) := ⟨in_wsL_law_r25 _ (List.mem_of_getElem? (i := 4) rfl), good_of_word (by decide +kernel)⟩
theorem gq_X10_turns : GoodIn lw_tbl (wsV RL 77 RX10 yX10_turns wsX10_turns) := goodIn_app (gi_cons wd_575 (gi_cons wd_576 (gi_cons wd_577 (gi_cons wd_140 gi_nil)))) gr_wsX10_turns
theorem wd_578 : GW (.code yX9_turn cX9_turn 2 (some .int)) := ⟨in_wsL_law_r25 _ (List.mem_of_getElem? (i := 13) rfl), good_of_word (by decide +kernel)⟩
theorem wd_579 : GW (.methodLink RX9 211 yX8_isCorner) := ⟨in_wsL_law_r25 _ (List.mem_of_getElem? (i := 15) rfl), good_of_word (by decide +kernel)⟩
theorem wd_580 : GW (.fieldLink RX9 221 "ParquetLayer$Turner" "across" "J") := ⟨in_wsL_law_r25 _ (List.mem_of_getElem? (i := 14) rfl), good_of_word (by decide +kernel)⟩
set_option maxRecDepth 20000 in
theorem gr_wsX9_turn_r1 : GoodIn lw_tbl wsX9_turn_r1 := gi_cons wd_89 (gi_cons wd_69 (gi_cons wd_311 (gi_cons wd_10 (gi_cons wd_580 (gi_cons wd_496 (gi_cons wd_579 (gi_cons wd_548 (gi_cons wd_11 (gi_cons wd_547 (gi_cons wd_85 (gi_cons wd_84 (gi_cons wd_83 (gi_cons wd_82 (gi_cons wd_81 (gi_cons wd_80 (gi_cons wd_227 (gi_cons wd_226 (gi_cons wd_225 (gi_cons wd_224 (gi_cons wd_75 (gi_cons wd_74 (gi_cons wd_72 (gi_cons wd_223 (gi_nil))))))))))))))))))))))))
theorem wd_581 : GW (.selects RX8 yX8_flip yX8_flip) := ⟨in_wsL_law_r25 _ (List.mem_of_getElem? (i := 19) rfl), good_of_word (by decide +kernel)⟩
theorem wd_582 : GW (.instanceMethod yX8_flip) := ⟨in_wsL_law_r25 _ (List.mem_of_getElem? (i := 18) rfl), good_of_word (by decide +kernel)⟩
theorem wd_583 : GW (.methodLink RX9 217 yX8_flip) := ⟨in_wsL_law_r25 _ (List.mem_of_getElem? (i := 17) rfl), good_of_word (by decide +kernel)⟩
theorem wd_584 : GW (.methodLink RX9 214 yX8_lying) := ⟨in_wsL_law_r25 _ (List.mem_of_getElem? (i := 16) rfl), good_of_word (by decide +kernel)⟩
set_option maxRecDepth 20000 in
theorem gr_wsX9_turn_r2 : GoodIn lw_tbl wsX9_turn_r2 := gi_cons wd_222 (gi_cons wd_221 (gi_cons wd_220 (gi_cons wd_219 (gi_cons wd_218 (gi_cons wd_217 (gi_cons wd_216 (gi_cons wd_566 (gi_cons wd_565 (gi_cons wd_564 (gi_cons wd_563 (gi_cons wd_562 (gi_cons wd_561 (gi_cons wd_560 (gi_cons wd_559 (gi_cons wd_558 (gi_cons wd_584 (gi_cons wd_552 (gi_cons wd_551 (gi_cons wd_550 (gi_cons wd_549 (gi_cons wd_583 (gi_cons wd_582 (gi_cons wd_581 (gi_nil))))))))))))))))))))))))
theorem wd_585 : GW (.code yX8_flip cX8_flip 2 none) := ⟨in_wsL_law_r25 _ (List.mem_of_getElem? (i := 20) rfl), good_of_word (by decide +kernel)⟩
set_option maxRecDepth 20000 in
theorem gr_wsX9_turn_r3 : GoodIn lw_tbl wsX9_turn_r3 := gi_cons wd_585 (gi_cons wd_369 (gi_cons wd_368 (gi_cons wd_367 (gi_cons wd_366 (gi_cons wd_365 (gi_cons wd_364 (gi_cons wd_363 (gi_cons wd_362 (gi_cons wd_88 (gi_cons wd_86 (gi_cons wd_361 (gi_cons wd_360 (gi_cons wd_359 (gi_cons wd_23 (gi_cons wd_22 (gi_cons wd_42 (gi_cons wd_358 (gi_cons wd_357 (gi_cons wd_382 (gi_cons wd_381 (gi_cons wd_380 (gi_cons wd_379 (gi_cons wd_378 (gi_nil))))))))))))))))))))))))
theorem wd_586 : GW (.code yX4_numberOf cX4_numberOf 7 (some .int)) := ⟨in_wsL_law_r26 _ (List.mem_of_getElem? (i := 0) rfl), good_of_word (by decide +kernel)⟩
theorem wd_587 : GW (.selects RX4 yX4_numberOf yX4_numberOf) := ⟨in_wsL_law_r25 _ (List.mem_of_getElem? (i := 23) rfl), good_of_word (by decide +kernel)⟩
theorem wd_588 : GW (.instanceMethod yX4_numberOf) := ⟨in_wsL_law_r25 _ (List.mem_of_getElem? (i := 22) rfl), good_of_word (by decide +kernel)⟩
theorem wd_589 : GW (.methodLink RX9 223 yX4_numberOf) := ⟨in_wsL_law_r25 _ (List.mem_of_getElem? (i := 21) rfl), good_of_word (by decide +kernel)⟩
set_option maxRecDepth 20000 in
theorem gr_wsX9_turn_r4 : GoodIn lw_tbl wsX9_turn_r4 := gi_cons wd_377 (gi_cons wd_376 (gi_cons wd_375 (gi_cons wd_374 (gi_cons wd_373 (gi_cons wd_372 (gi_cons wd_371 (gi_cons wd_370 (gi_cons wd_190 (gi_cons wd_66 (gi_cons wd_189 (gi_cons wd_389 (gi_cons wd_388 (gi_cons wd_387 (gi_cons wd_589 (gi_cons wd_588 (gi_cons wd_587 (gi_cons wd_586 (gi_cons wd_466 (gi_cons wd_465 (gi_cons wd_464 (gi_cons wd_463 (gi_cons wd_462 (gi_cons wd_461 (gi_nil))))))))))))))))))))))))
set_option maxRecDepth 20000 in
theorem gr_wsX9_turn_r5 : GoodIn lw_tbl wsX9_turn_r5 := gi_cons wd_460 (gi_cons wd_459 (gi_cons wd_453 (gi_cons wd_452 (gi_cons wd_451 (gi_cons wd_450 (gi_cons wd_472 (gi_cons wd_471 (gi_cons wd_347 (gi_cons wd_470 (gi_cons wd_469 (gi_cons wd_468 (gi_cons wd_467 (gi_cons wd_458 (gi_cons wd_457 (gi_cons wd_456 (gi_cons wd_455 (gi_cons wd_433 (gi_cons wd_454 (gi_cons wd_431 (gi_cons wd_430 (gi_cons wd_429 (gi_cons wd_428 (gi_cons wd_341 (gi_nil))))))))))))))))))))))))
set_option maxRecDepth 20000 in
theorem gr_wsX9_turn_r6 : GoodIn lw_tbl wsX9_turn_r6 := gi_cons wd_342 (gi_cons wd_477 (gi_cons wd_476 (gi_cons wd_475 (gi_cons wd_474 (gi_cons wd_473 (gi_cons wd_344 (gi_cons wd_345 (gi_nil))))))))
set_option maxRecDepth 20000 in
theorem gr_wsX9_turn : GoodIn lw_tbl wsX9_turn := gi_cons wd_578 (goodIn_app (goodIn_app (goodIn_app (goodIn_app (goodIn_app (goodIn_app (gr_wsX9_turn_r1) (goodIn_app (gr_wsX9_turn_r2) (goodIn_app (gr_wsX9_turn_r3) (goodIn_app (gr_wsX9_turn_r4) (goodIn_app (gr_wsX9_turn_r5) (gr_wsX9_turn_r6)))))) (gu_X9)) (gu_X8)) (gu_X3)) (gu_X7)) (gu_X4))
theorem wd_590 : GW (.methodLink RL 78 yX9_turn) := ⟨in_wsL_law_r25 _ (List.mem_of_getElem? (i := 10) rfl), good_of_word (by decide +kernel)⟩
theorem wd_591 : GW (.instanceMethod yX9_turn) := ⟨in_wsL_law_r25 _ (List.mem_of_getElem? (i := 11) rfl), good_of_word (by decide +kernel)⟩
theorem wd_592 : GW (.selects RX9 yX9_turn yX9_turn) := ⟨in_wsL_law_r25 _ (List.mem_of_getElem? (i := 12) rfl), good_of_word (by decide +kernel)⟩
theorem gq_X9_turn : GoodIn lw_tbl (wsV RL 78 RX9 yX9_turn wsX9_turn) := goodIn_app (gi_cons wd_590 (gi_cons wd_591 (gi_cons wd_592 (gi_cons wd_82 gi_nil)))) gr_wsX9_turn
theorem wd_593 : GW (.code yX10_turn cX10_turn 3 (some .int)) := ⟨in_wsL_law_r26 _ (List.mem_of_getElem? (i := 4) rfl), good_of_word (by decide +kernel)⟩
set_option maxRecDepth 20000 in
theorem gr_wsX10_turn_r1 : GoodIn lw_tbl wsX10_turn_r1 := gi_cons wd_146 (gi_cons wd_175 (gi_cons wd_174 (gi_cons wd_173 (gi_cons wd_316 (gi_cons wd_201 (gi_cons wd_200 (gi_cons wd_140 (gi_cons wd_199 (gi_cons wd_142 (gi_cons wd_141 (gi_cons wd_139 (gi_cons wd_138 (gi_cons wd_137 (gi_cons wd_136 (gi_cons wd_135 (gi_cons wd_134 (gi_cons wd_400 (gi_cons wd_399 (gi_cons wd_398 (gi_cons wd_397 (gi_cons wd_396 (gi_cons wd_395 (gi_cons wd_394 (gi_nil))))))))))))))))))))))))
set_option maxRecDepth 20000 in
theorem gr_wsX10_turn_r2 : GoodIn lw_tbl wsX10_turn_r2 := gi_cons wd_129 (gi_cons wd_248 (gi_cons wd_247 (gi_cons wd_246 (gi_cons wd_245 (gi_cons wd_161 (gi_cons wd_160 (gi_cons wd_159 (gi_cons wd_158 (gi_cons wd_63 (gi_cons wd_126 (gi_cons wd_125 (gi_cons wd_124 (gi_cons wd_123 (gi_cons wd_169 (gi_cons wd_168 (gi_cons wd_167 (gi_cons wd_166 (gi_cons wd_413 (gi_cons wd_412 (gi_cons wd_411 (gi_cons wd_410 (gi_cons wd_165 (gi_cons wd_164 (gi_nil))))))))))))))))))))))))
theorem wd_594 : GW (.code yX10_acrossAt cX10_acrossAt 1 (some .long)) := ⟨in_wsL_law_r26 _ (List.mem_of_getElem? (i := 10) rfl), good_of_word (by decide +kernel)⟩
theorem wd_595 : GW (.static yX10_acrossAt) := ⟨in_wsL_law_r26 _ (List.mem_of_getElem? (i := 9) rfl), good_of_word (by decide +kernel)⟩
theorem wd_596 : GW (.methodLink RX10 239 yX10_acrossAt) := ⟨in_wsL_law_r26 _ (List.mem_of_getElem? (i := 8) rfl), good_of_word (by decide +kernel)⟩
theorem wd_597 : GW (.code yX10_alongAt cX10_alongAt 1 (some .long)) := ⟨in_wsL_law_r26 _ (List.mem_of_getElem? (i := 7) rfl), good_of_word (by decide +kernel)⟩
theorem wd_598 : GW (.static yX10_alongAt) := ⟨in_wsL_law_r26 _ (List.mem_of_getElem? (i := 6) rfl), good_of_word (by decide +kernel)⟩
theorem wd_599 : GW (.methodLink RX10 235 yX10_alongAt) := ⟨in_wsL_law_r26 _ (List.mem_of_getElem? (i := 5) rfl), good_of_word (by decide +kernel)⟩
set_option maxRecDepth 20000 in
theorem gr_wsX10_turn_r3 : GoodIn lw_tbl wsX10_turn_r3 := gi_cons wd_163 (gi_cons wd_162 (gi_cons wd_574 (gi_cons wd_573 (gi_cons wd_572 (gi_cons wd_571 (gi_cons wd_148 (gi_cons wd_147 (gi_cons wd_181 (gi_cons wd_599 (gi_cons wd_598 (gi_cons wd_597 (gi_cons wd_596 (gi_cons wd_595 (gi_cons wd_594 (gi_cons wd_504 (gi_cons wd_503 (gi_cons wd_502 (gi_cons wd_501 (gi_cons wd_404 (gi_cons wd_403 (gi_cons wd_402 (gi_cons wd_401 (gi_cons wd_409 (gi_nil))))))))))))))))))))))))
set_option maxRecDepth 20000 in
theorem gr_wsX10_turn_r4 : GoodIn lw_tbl wsX10_turn_r4 := gi_cons wd_408 (gi_cons wd_407 (gi_cons wd_406 (gi_cons wd_50 (gi_cons wd_145 (gi_cons wd_405 (gi_cons wd_420 (gi_cons wd_419 (gi_cons wd_418 (gi_cons wd_143 (gi_cons wd_417 (gi_cons wd_416 (gi_cons wd_415 (gi_cons wd_414 (gi_cons wd_508 (gi_cons wd_507 (gi_cons wd_506 (gi_cons wd_505 (gi_nil))))))))))))))))))
set_option maxRecDepth 20000 in
theorem gr_wsX10_turn : GoodIn lw_tbl wsX10_turn := gi_cons wd_593 (goodIn_app (goodIn_app (gr_wsX10_turn_r1) (goodIn_app (gr_wsX10_turn_r2) (goodIn_app (gr_wsX10_turn_r3) (gr_wsX10_turn_r4)))) (gu_X10))
theorem wd_600 : GW (.methodLink RL 81 yX10_turn) := ⟨in_wsL_law_r26 _ (List.mem_of_getElem? (i := 1) rfl), good_of_word (by decide +kernel)⟩
theorem wd_601 : GW (.instanceMethod yX10_turn) := ⟨in_wsL_law_r26 _ (List.mem_of_getElem? (i := 2) rfl), good_of_word (by decide +kernel)⟩
theorem wd_602 : GW (.selects RX10 yX10_turn yX10_turn) := ⟨in_wsL_law_r26 _ (List.mem_of_getElem? (i := 3) rfl), good_of_word (by decide +kernel)⟩
theorem gq_X10_turn : GoodIn lw_tbl (wsV RL 81 RX10 yX10_turn wsX10_turn) := goodIn_app (gi_cons wd_600 (gi_cons wd_601 (gi_cons wd_602 (gi_cons wd_140 gi_nil)))) gr_wsX10_turn
theorem wd_603 : GW (.code yX9_height cX9_height 3 (some .int)) := ⟨in_wsL_law_r26 _ (List.mem_of_getElem? (i := 14) rfl), good_of_word (by decide +kernel)⟩
theorem wd_604 : GW (.fieldLink RX9 230 "ParquetLayer$Heights" "here" "[I") := ⟨in_wsL_law_r26 _ (List.mem_of_getElem? (i := 15) rfl), good_of_word (by decide +kernel)⟩
set_option maxRecDepth 20000 in
theorem gr_wsX9_height_r1 : GoodIn lw_tbl wsX9_height_r1 := gi_cons wd_70 (gi_cons wd_69 (gi_cons wd_88 (gi_cons wd_311 (gi_cons wd_14 (gi_cons wd_604 (gi_cons wd_231 (gi_cons wd_230 (gi_cons wd_229 (gi_cons wd_82 (gi_cons wd_228 (gi_cons wd_227 (gi_cons wd_226 (gi_cons wd_225 (gi_cons wd_224 (gi_cons wd_75 (gi_cons wd_74 (gi_cons wd_72 (gi_cons wd_223 (gi_cons wd_222 (gi_cons wd_221 (gi_cons wd_220 (gi_cons wd_219 (gi_cons wd_218 (gi_nil))))))))))))))))))))))))
set_option maxRecDepth 20000 in
theorem gr_wsX9_height_r2 : GoodIn lw_tbl wsX9_height_r2 := gi_cons wd_217 (gi_cons wd_216 (gi_cons wd_215 (gi_cons wd_214 (gi_cons wd_66 (gi_cons wd_233 (gi_cons wd_108 (gi_cons wd_107 (gi_cons wd_232 (gi_cons wd_211 (gi_cons wd_210 (gi_cons wd_209 (gi_cons wd_190 (gi_cons wd_189 (gi_cons wd_208 (gi_cons wd_207 (gi_cons wd_206 (gi_cons wd_106 (gi_cons wd_105 (gi_cons wd_104 (gi_cons wd_103 (gi_cons wd_102 (gi_cons wd_85 (gi_cons wd_84 (gi_nil))))))))))))))))))))))))
theorem wd_605 : GW (.code yX2_firstPoint cX2_firstPoint 3 (some .int)) := ⟨in_wsL_law_r27 _ (List.mem_of_getElem? (i := 9) rfl), good_of_word (by decide +kernel)⟩
theorem wd_606 : GW (.static yX2_firstPoint) := ⟨in_wsL_law_r27 _ (List.mem_of_getElem? (i := 8) rfl), good_of_word (by decide +kernel)⟩
theorem wd_607 : GW (.methodLink RX2 42 yX2_firstPoint) := ⟨in_wsL_law_r27 _ (List.mem_of_getElem? (i := 7) rfl), good_of_word (by decide +kernel)⟩
theorem wd_608 : GW (.code yJ7_fill_53178 cJ7_fill_53178 4 none) := ⟨in_wsL_law_r27 _ (List.mem_of_getElem? (i := 6) rfl), good_of_word (by decide +kernel)⟩
theorem wd_609 : GW (.initialized RJ7) := ⟨in_wsL_law_r27 _ (List.mem_of_getElem? (i := 5) rfl), good_of_word (by decide +kernel)⟩
theorem wd_610 : GW (.static yJ7_fill_53178) := ⟨in_wsL_law_r27 _ (List.mem_of_getElem? (i := 4) rfl), good_of_word (by decide +kernel)⟩
theorem wd_611 : GW (.methodLink RX2 32 yJ7_fill_53178) := ⟨in_wsL_law_r27 _ (List.mem_of_getElem? (i := 3) rfl), good_of_word (by decide +kernel)⟩
theorem wd_612 : GW (.fieldLink RX2 38 "ParquetLayer$Heights" "queued" "I") := ⟨in_wsL_law_r27 _ (List.mem_of_getElem? (i := 2) rfl), good_of_word (by decide +kernel)⟩
theorem wd_613 : GW (.code yX2_measure cX2_measure 9 none) := ⟨in_wsL_law_r27 _ (List.mem_of_getElem? (i := 1) rfl), good_of_word (by decide +kernel)⟩
theorem wd_614 : GW (.selects RX2 yX2_measure yX2_measure) := ⟨in_wsL_law_r27 _ (List.mem_of_getElem? (i := 0) rfl), good_of_word (by decide +kernel)⟩
theorem wd_615 : GW (.instanceMethod yX2_measure) := ⟨in_wsL_law_r26 _ (List.mem_of_getElem? (i := 23) rfl), good_of_word (by decide +kernel)⟩
theorem wd_616 : GW (.methodLink RX9 234 yX2_measure) := ⟨in_wsL_law_r26 _ (List.mem_of_getElem? (i := 22) rfl), good_of_word (by decide +kernel)⟩
theorem wd_617 : GW (.code yX1_holdsAt cX1_holdsAt 4 (some .boolean)) := ⟨in_wsL_law_r26 _ (List.mem_of_getElem? (i := 21) rfl), good_of_word (by decide +kernel)⟩
theorem wd_618 : GW (.static yX1_holdsAt) := ⟨in_wsL_law_r26 _ (List.mem_of_getElem? (i := 20) rfl), good_of_word (by decide +kernel)⟩
theorem wd_619 : GW (.methodLink RX2 26 yX1_holdsAt) := ⟨in_wsL_law_r26 _ (List.mem_of_getElem? (i := 19) rfl), good_of_word (by decide +kernel)⟩
theorem wd_620 : GW (.code yX2_isPoint cX2_isPoint 4 (some .boolean)) := ⟨in_wsL_law_r26 _ (List.mem_of_getElem? (i := 18) rfl), good_of_word (by decide +kernel)⟩
theorem wd_621 : GW (.static yX2_isPoint) := ⟨in_wsL_law_r26 _ (List.mem_of_getElem? (i := 17) rfl), good_of_word (by decide +kernel)⟩
theorem wd_622 : GW (.methodLink RX9 226 yX2_isPoint) := ⟨in_wsL_law_r26 _ (List.mem_of_getElem? (i := 16) rfl), good_of_word (by decide +kernel)⟩
set_option maxRecDepth 20000 in
theorem gr_wsX9_height_r3 : GoodIn lw_tbl wsX9_height_r3 := gi_cons wd_83 (gi_cons wd_81 (gi_cons wd_80 (gi_cons wd_622 (gi_cons wd_621 (gi_cons wd_15 (gi_cons wd_620 (gi_cons wd_619 (gi_cons wd_618 (gi_cons wd_617 (gi_cons wd_616 (gi_cons wd_615 (gi_cons wd_614 (gi_cons wd_613 (gi_cons wd_38 (gi_cons wd_612 (gi_cons wd_39 (gi_cons wd_611 (gi_cons wd_610 (gi_cons wd_609 (gi_cons wd_608 (gi_cons wd_607 (gi_cons wd_606 (gi_cons wd_605 (gi_nil))))))))))))))))))))))))
theorem wd_623 : GW (.methodLink RX9 238 yX2_pointOf) := ⟨in_wsL_law_r28 _ (List.mem_of_getElem? (i := 5) rfl), good_of_word (by decide +kernel)⟩
theorem wd_624 : GW (.fieldLink RX2 70 "ParquetLayer$Laying" "along" "J") := ⟨in_wsL_law_r28 _ (List.mem_of_getElem? (i := 4) rfl), good_of_word (by decide +kernel)⟩
theorem wd_625 : GW (.code yX2_isOpenSteep cX2_isOpenSteep 5 (some .boolean)) := ⟨in_wsL_law_r28 _ (List.mem_of_getElem? (i := 3) rfl), good_of_word (by decide +kernel)⟩
theorem wd_626 : GW (.static yX2_isOpenSteep) := ⟨in_wsL_law_r28 _ (List.mem_of_getElem? (i := 2) rfl), good_of_word (by decide +kernel)⟩
theorem wd_627 : GW (.methodLink RX2 57 yX2_isOpenSteep) := ⟨in_wsL_law_r28 _ (List.mem_of_getElem? (i := 1) rfl), good_of_word (by decide +kernel)⟩
theorem wd_628 : GW (.code yX2_riseRight cX2_riseRight 2 (some .int)) := ⟨in_wsL_law_r28 _ (List.mem_of_getElem? (i := 0) rfl), good_of_word (by decide +kernel)⟩
theorem wd_629 : GW (.static yX2_riseRight) := ⟨in_wsL_law_r27 _ (List.mem_of_getElem? (i := 23) rfl), good_of_word (by decide +kernel)⟩
theorem wd_630 : GW (.methodLink RX2 54 yX2_riseRight) := ⟨in_wsL_law_r27 _ (List.mem_of_getElem? (i := 22) rfl), good_of_word (by decide +kernel)⟩
theorem wd_631 : GW (.fieldLink RX2 64 "ParquetLayer$Laying" "across" "J") := ⟨in_wsL_law_r27 _ (List.mem_of_getElem? (i := 21) rfl), good_of_word (by decide +kernel)⟩
theorem wd_632 : GW (.code yX2_isOpenFlat cX2_isOpenFlat 5 (some .boolean)) := ⟨in_wsL_law_r27 _ (List.mem_of_getElem? (i := 20) rfl), good_of_word (by decide +kernel)⟩
theorem wd_633 : GW (.static yX2_isOpenFlat) := ⟨in_wsL_law_r27 _ (List.mem_of_getElem? (i := 19) rfl), good_of_word (by decide +kernel)⟩
theorem wd_634 : GW (.methodLink RX2 50 yX2_isOpenFlat) := ⟨in_wsL_law_r27 _ (List.mem_of_getElem? (i := 18) rfl), good_of_word (by decide +kernel)⟩
theorem wd_635 : GW (.code yX2_reach cX2_reach 3 none) := ⟨in_wsL_law_r27 _ (List.mem_of_getElem? (i := 17) rfl), good_of_word (by decide +kernel)⟩
theorem wd_636 : GW (.selects RX2 yX2_reach yX2_reach) := ⟨in_wsL_law_r27 _ (List.mem_of_getElem? (i := 16) rfl), good_of_word (by decide +kernel)⟩
theorem wd_637 : GW (.instanceMethod yX2_reach) := ⟨in_wsL_law_r27 _ (List.mem_of_getElem? (i := 15) rfl), good_of_word (by decide +kernel)⟩
theorem wd_638 : GW (.methodLink RX2 46 yX2_reach) := ⟨in_wsL_law_r27 _ (List.mem_of_getElem? (i := 14) rfl), good_of_word (by decide +kernel)⟩
theorem wd_639 : GW (.code yX2_pointOf cX2_pointOf 2 (some .int)) := ⟨in_wsL_law_r27 _ (List.mem_of_getElem? (i := 13) rfl), good_of_word (by decide +kernel)⟩
theorem wd_640 : GW (.static yX2_pointOf) := ⟨in_wsL_law_r27 _ (List.mem_of_getElem? (i := 12) rfl), good_of_word (by decide +kernel)⟩
theorem wd_641 : GW (.methodLink RX2 22 yX2_pointOf) := ⟨in_wsL_law_r27 _ (List.mem_of_getElem? (i := 11) rfl), good_of_word (by decide +kernel)⟩
theorem wd_642 : GW (.methodLink RX2 60 yX1_holds) := ⟨in_wsL_law_r27 _ (List.mem_of_getElem? (i := 10) rfl), good_of_word (by decide +kernel)⟩
set_option maxRecDepth 20000 in
theorem gr_wsX9_height_r4 : GoodIn lw_tbl wsX9_height_r4 := gi_cons wd_642 (gi_cons wd_641 (gi_cons wd_640 (gi_cons wd_639 (gi_cons wd_638 (gi_cons wd_637 (gi_cons wd_636 (gi_cons wd_635 (gi_cons wd_634 (gi_cons wd_633 (gi_cons wd_632 (gi_cons wd_631 (gi_cons wd_630 (gi_cons wd_629 (gi_cons wd_628 (gi_cons wd_627 (gi_cons wd_626 (gi_cons wd_625 (gi_cons wd_624 (gi_cons wd_623 (gi_nil))))))))))))))))))))
set_option maxRecDepth 20000 in
theorem gr_wsX9_height : GoodIn lw_tbl wsX9_height := gi_cons wd_603 (goodIn_app (goodIn_app (goodIn_app (goodIn_app (goodIn_app (gr_wsX9_height_r1) (goodIn_app (gr_wsX9_height_r2) (goodIn_app (gr_wsX9_height_r3) (gr_wsX9_height_r4)))) (gu_X9)) (gu_X2)) (gu_X7)) (gu_X3))
theorem wd_643 : GW (.methodLink RL 82 yX9_height) := ⟨in_wsL_law_r26 _ (List.mem_of_getElem? (i := 11) rfl), good_of_word (by decide +kernel)⟩
theorem wd_644 : GW (.instanceMethod yX9_height) := ⟨in_wsL_law_r26 _ (List.mem_of_getElem? (i := 12) rfl), good_of_word (by decide +kernel)⟩
theorem wd_645 : GW (.selects RX9 yX9_height yX9_height) := ⟨in_wsL_law_r26 _ (List.mem_of_getElem? (i := 13) rfl), good_of_word (by decide +kernel)⟩
theorem gq_X9_height : GoodIn lw_tbl (wsV RL 82 RX9 yX9_height wsX9_height) := goodIn_app (gi_cons wd_643 (gi_cons wd_644 (gi_cons wd_645 (gi_cons wd_82 gi_nil)))) gr_wsX9_height
theorem wd_646 : GW (.code yX10_height cX10_height 3 (some .int)) := ⟨in_wsL_law_r28 _ (List.mem_of_getElem? (i := 9) rfl), good_of_word (by decide +kernel)⟩
set_option maxRecDepth 20000 in
theorem gr_wsX10_height_r1 : GoodIn lw_tbl wsX10_height_r1 := gi_cons wd_127 (gi_cons wd_175 (gi_cons wd_316 (gi_cons wd_174 (gi_cons wd_173 (gi_cons wd_49 (gi_cons wd_256 (gi_cons wd_255 (gi_cons wd_254 (gi_cons wd_140 (gi_cons wd_253 (gi_cons wd_145 (gi_cons wd_252 (gi_cons wd_251 (gi_cons wd_250 (gi_cons wd_249 (gi_cons wd_129 (gi_cons wd_248 (gi_cons wd_247 (gi_cons wd_246 (gi_cons wd_245 (gi_cons wd_161 (gi_cons wd_160 (gi_cons wd_159 (gi_nil))))))))))))))))))))))))
set_option maxRecDepth 20000 in
theorem gr_wsX10_height_r2 : GoodIn lw_tbl wsX10_height_r2 := gi_cons wd_158 (gi_cons wd_63 (gi_cons wd_241 (gi_cons wd_240 (gi_cons wd_239 (gi_cons wd_238 (gi_cons wd_51 (gi_cons wd_263 (gi_cons wd_262 (gi_cons wd_261 (gi_cons wd_151 (gi_cons wd_150 (gi_cons wd_149 (gi_cons wd_142 (gi_cons wd_141 (gi_cons wd_139 (gi_cons wd_148 (gi_cons wd_147 (gi_cons wd_181 (gi_cons wd_260 (gi_cons wd_259 (gi_cons wd_258 (gi_cons wd_257 (gi_cons wd_138 (gi_nil))))))))))))))))))))))))
theorem wd_647 : GW (.methodLink RX10 253 yX10_goesDown) := ⟨in_wsL_law_r29 _ (List.mem_of_getElem? (i := 2) rfl), good_of_word (by decide +kernel)⟩
theorem wd_648 : GW (.code yX10_spread cX10_spread 4 (some .boolean)) := ⟨in_wsL_law_r29 _ (List.mem_of_getElem? (i := 1) rfl), good_of_word (by decide +kernel)⟩
theorem wd_649 : GW (.static yX10_spread) := ⟨in_wsL_law_r29 _ (List.mem_of_getElem? (i := 0) rfl), good_of_word (by decide +kernel)⟩
theorem wd_650 : GW (.methodLink RX10 249 yX10_spread) := ⟨in_wsL_law_r28 _ (List.mem_of_getElem? (i := 23) rfl), good_of_word (by decide +kernel)⟩
theorem wd_651 : GW (.code yX10_goesRight cX10_goesRight 5 (some .boolean)) := ⟨in_wsL_law_r28 _ (List.mem_of_getElem? (i := 22) rfl), good_of_word (by decide +kernel)⟩
theorem wd_652 : GW (.selects RX10 yX10_goesRight yX10_goesRight) := ⟨in_wsL_law_r28 _ (List.mem_of_getElem? (i := 21) rfl), good_of_word (by decide +kernel)⟩
theorem wd_653 : GW (.instanceMethod yX10_goesRight) := ⟨in_wsL_law_r28 _ (List.mem_of_getElem? (i := 20) rfl), good_of_word (by decide +kernel)⟩
theorem wd_654 : GW (.methodLink RX10 246 yX10_goesRight) := ⟨in_wsL_law_r28 _ (List.mem_of_getElem? (i := 19) rfl), good_of_word (by decide +kernel)⟩
theorem wd_655 : GW (.constant RX10 242 (1000000)) := ⟨in_wsL_law_r28 _ (List.mem_of_getElem? (i := 18) rfl), good_of_word (by decide +kernel)⟩
theorem wd_656 : GW (.code yX10_findHeights cX10_findHeights 11 none) := ⟨in_wsL_law_r28 _ (List.mem_of_getElem? (i := 17) rfl), good_of_word (by decide +kernel)⟩
theorem wd_657 : GW (.selects RX10 yX10_findHeights yX10_findHeights) := ⟨in_wsL_law_r28 _ (List.mem_of_getElem? (i := 16) rfl), good_of_word (by decide +kernel)⟩
theorem wd_658 : GW (.instanceMethod yX10_findHeights) := ⟨in_wsL_law_r28 _ (List.mem_of_getElem? (i := 15) rfl), good_of_word (by decide +kernel)⟩
theorem wd_659 : GW (.methodLink RX10 256 yX10_findHeights) := ⟨in_wsL_law_r28 _ (List.mem_of_getElem? (i := 14) rfl), good_of_word (by decide +kernel)⟩
theorem wd_660 : GW (.code yX10_isPoint cX10_isPoint 3 (some .boolean)) := ⟨in_wsL_law_r28 _ (List.mem_of_getElem? (i := 13) rfl), good_of_word (by decide +kernel)⟩
theorem wd_661 : GW (.selects RX10 yX10_isPoint yX10_isPoint) := ⟨in_wsL_law_r28 _ (List.mem_of_getElem? (i := 12) rfl), good_of_word (by decide +kernel)⟩
theorem wd_662 : GW (.instanceMethod yX10_isPoint) := ⟨in_wsL_law_r28 _ (List.mem_of_getElem? (i := 11) rfl), good_of_word (by decide +kernel)⟩
theorem wd_663 : GW (.methodLink RX10 243 yX10_isPoint) := ⟨in_wsL_law_r28 _ (List.mem_of_getElem? (i := 10) rfl), good_of_word (by decide +kernel)⟩
set_option maxRecDepth 20000 in
theorem gr_wsX10_height_r3 : GoodIn lw_tbl wsX10_height_r3 := gi_cons wd_137 (gi_cons wd_136 (gi_cons wd_135 (gi_cons wd_134 (gi_cons wd_663 (gi_cons wd_662 (gi_cons wd_661 (gi_cons wd_660 (gi_cons wd_659 (gi_cons wd_658 (gi_cons wd_657 (gi_cons wd_656 (gi_cons wd_655 (gi_cons wd_654 (gi_cons wd_653 (gi_cons wd_652 (gi_cons wd_651 (gi_cons wd_244 (gi_cons wd_243 (gi_cons wd_242 (gi_cons wd_650 (gi_cons wd_649 (gi_cons wd_648 (gi_cons wd_647 (gi_nil))))))))))))))))))))))))
theorem wd_664 : GW (.code yX10_goesDown cX10_goesDown 5 (some .boolean)) := ⟨in_wsL_law_r29 _ (List.mem_of_getElem? (i := 5) rfl), good_of_word (by decide +kernel)⟩
theorem wd_665 : GW (.selects RX10 yX10_goesDown yX10_goesDown) := ⟨in_wsL_law_r29 _ (List.mem_of_getElem? (i := 4) rfl), good_of_word (by decide +kernel)⟩
theorem wd_666 : GW (.instanceMethod yX10_goesDown) := ⟨in_wsL_law_r29 _ (List.mem_of_getElem? (i := 3) rfl), good_of_word (by decide +kernel)⟩
set_option maxRecDepth 20000 in
theorem gr_wsX10_height_r4 : GoodIn lw_tbl wsX10_height_r4 := gi_cons wd_666 (gi_cons wd_665 (gi_cons wd_664 (gi_nil)))
set_option maxRecDepth 20000 in
theorem gr_wsX10_height : GoodIn lw_tbl wsX10_height := gi_cons wd_646 (goodIn_app (goodIn_app (gr_wsX10_height_r1) (goodIn_app (gr_wsX10_height_r2) (goodIn_app (gr_wsX10_height_r3) (gr_wsX10_height_r4)))) (gu_X10))
theorem wd_667 : GW (.methodLink RL 85 yX10_height) := ⟨in_wsL_law_r28 _ (List.mem_of_getElem? (i := 6) rfl), good_of_word (by decide +kernel)⟩
theorem wd_668 : GW (.instanceMethod yX10_height) := ⟨in_wsL_law_r28 _ (List.mem_of_getElem? (i := 7) rfl), good_of_word (by decide +kernel)⟩
theorem wd_669 : GW (.selects RX10 yX10_height yX10_height) := ⟨in_wsL_law_r28 _ (List.mem_of_getElem? (i := 8) rfl), good_of_word (by decide +kernel)⟩
theorem gq_X10_height : GoodIn lw_tbl (wsV RL 85 RX10 yX10_height wsX10_height) := goodIn_app (gi_cons wd_667 (gi_cons wd_668 (gi_cons wd_669 (gi_cons wd_140 gi_nil)))) gr_wsX10_height
theorem wd_670 : GW (.code yX9_extreme cX9_extreme 2 (some .int)) := ⟨in_wsL_law_r29 _ (List.mem_of_getElem? (i := 9) rfl), good_of_word (by decide +kernel)⟩
set_option maxRecDepth 20000 in
theorem gr_wsX9_extreme_r1 : GoodIn lw_tbl wsX9_extreme_r1 := gi_cons wd_70 (gi_cons wd_311 (gi_cons wd_10 (gi_cons wd_580 (gi_cons wd_231 (gi_cons wd_230 (gi_cons wd_229 (gi_cons wd_82 (gi_cons wd_228 (gi_cons wd_88 (gi_cons wd_227 (gi_cons wd_226 (gi_cons wd_225 (gi_cons wd_224 (gi_cons wd_75 (gi_cons wd_74 (gi_cons wd_72 (gi_cons wd_223 (gi_cons wd_222 (gi_cons wd_221 (gi_cons wd_220 (gi_cons wd_219 (gi_cons wd_218 (gi_cons wd_217 (gi_nil))))))))))))))))))))))))
set_option maxRecDepth 20000 in
theorem gr_wsX9_extreme_r2 : GoodIn lw_tbl wsX9_extreme_r2 := gi_cons wd_216 (gi_cons wd_215 (gi_cons wd_214 (gi_cons wd_66 (gi_cons wd_233 (gi_cons wd_108 (gi_cons wd_107 (gi_cons wd_232 (gi_cons wd_211 (gi_cons wd_210 (gi_cons wd_209 (gi_cons wd_190 (gi_cons wd_189 (gi_cons wd_208 (gi_cons wd_207 (gi_cons wd_206 (gi_cons wd_106 (gi_cons wd_105 (gi_cons wd_104 (gi_cons wd_103 (gi_cons wd_102 (gi_cons wd_85 (gi_cons wd_84 (gi_cons wd_83 (gi_nil))))))))))))))))))))))))
set_option maxRecDepth 20000 in
theorem gr_wsX9_extreme_r3 : GoodIn lw_tbl wsX9_extreme_r3 := gi_cons wd_81 (gi_cons wd_80 (gi_cons wd_369 (gi_cons wd_368 (gi_cons wd_367 (gi_cons wd_366 (gi_cons wd_365 (gi_cons wd_364 (gi_cons wd_363 (gi_cons wd_362 (gi_cons wd_86 (gi_cons wd_361 (gi_cons wd_360 (gi_cons wd_359 (gi_cons wd_23 (gi_cons wd_22 (gi_cons wd_42 (gi_cons wd_358 (gi_cons wd_357 (gi_cons wd_382 (gi_cons wd_381 (gi_cons wd_380 (gi_cons wd_379 (gi_cons wd_378 (gi_nil))))))))))))))))))))))))
set_option maxRecDepth 20000 in
theorem gr_wsX9_extreme_r4 : GoodIn lw_tbl wsX9_extreme_r4 := gi_cons wd_377 (gi_cons wd_376 (gi_cons wd_375 (gi_cons wd_374 (gi_cons wd_373 (gi_cons wd_372 (gi_cons wd_371 (gi_cons wd_370 (gi_cons wd_389 (gi_cons wd_388 (gi_cons wd_387 (gi_cons wd_386 (gi_cons wd_385 (gi_cons wd_384 (gi_cons wd_383 (gi_cons wd_453 (gi_cons wd_452 (gi_cons wd_451 (gi_cons wd_450 (gi_cons wd_472 (gi_cons wd_471 (gi_cons wd_347 (gi_cons wd_470 (gi_cons wd_469 (gi_nil))))))))))))))))))))))))
set_option maxRecDepth 20000 in
theorem gr_wsX9_extreme_r5 : GoodIn lw_tbl wsX9_extreme_r5 := gi_cons wd_468 (gi_cons wd_467 (gi_cons wd_466 (gi_cons wd_465 (gi_cons wd_464 (gi_cons wd_463 (gi_cons wd_462 (gi_cons wd_461 (gi_cons wd_460 (gi_cons wd_459 (gi_cons wd_458 (gi_cons wd_457 (gi_cons wd_456 (gi_cons wd_455 (gi_cons wd_433 (gi_cons wd_454 (gi_cons wd_431 (gi_cons wd_430 (gi_cons wd_429 (gi_cons wd_428 (gi_cons wd_341 (gi_cons wd_342 (gi_cons wd_477 (gi_cons wd_476 (gi_nil))))))))))))))))))))))))
theorem wd_671 : GW (.constantLong RX8 32 (-6172840429334713771)) := ⟨in_wsL_law_r29 _ (List.mem_of_getElem? (i := 18) rfl), good_of_word (by decide +kernel)⟩
theorem wd_672 : GW (.code yX8_lift cX8_lift 3 (some .int)) := ⟨in_wsL_law_r29 _ (List.mem_of_getElem? (i := 17) rfl), good_of_word (by decide +kernel)⟩
theorem wd_673 : GW (.selects RX8 yX8_lift yX8_lift) := ⟨in_wsL_law_r29 _ (List.mem_of_getElem? (i := 16) rfl), good_of_word (by decide +kernel)⟩
theorem wd_674 : GW (.instanceMethod yX8_lift) := ⟨in_wsL_law_r29 _ (List.mem_of_getElem? (i := 15) rfl), good_of_word (by decide +kernel)⟩
theorem wd_675 : GW (.methodLink RX8 38 yX8_lift) := ⟨in_wsL_law_r29 _ (List.mem_of_getElem? (i := 14) rfl), good_of_word (by decide +kernel)⟩
theorem wd_676 : GW (.code yX8_goOn cX8_goOn 6 none) := ⟨in_wsL_law_r29 _ (List.mem_of_getElem? (i := 13) rfl), good_of_word (by decide +kernel)⟩
theorem wd_677 : GW (.selects RX8 yX8_goOn yX8_goOn) := ⟨in_wsL_law_r29 _ (List.mem_of_getElem? (i := 12) rfl), good_of_word (by decide +kernel)⟩
theorem wd_678 : GW (.instanceMethod yX8_goOn) := ⟨in_wsL_law_r29 _ (List.mem_of_getElem? (i := 11) rfl), good_of_word (by decide +kernel)⟩
theorem wd_679 : GW (.methodLink RX9 241 yX8_goOn) := ⟨in_wsL_law_r29 _ (List.mem_of_getElem? (i := 10) rfl), good_of_word (by decide +kernel)⟩
set_option maxRecDepth 20000 in
theorem gr_wsX9_extreme_r6 : GoodIn lw_tbl wsX9_extreme_r6 := gi_cons wd_475 (gi_cons wd_474 (gi_cons wd_473 (gi_cons wd_344 (gi_cons wd_345 (gi_cons wd_566 (gi_cons wd_565 (gi_cons wd_564 (gi_cons wd_11 (gi_cons wd_563 (gi_cons wd_562 (gi_cons wd_561 (gi_cons wd_560 (gi_cons wd_559 (gi_cons wd_558 (gi_cons wd_679 (gi_cons wd_678 (gi_cons wd_677 (gi_cons wd_676 (gi_cons wd_675 (gi_cons wd_674 (gi_cons wd_673 (gi_cons wd_672 (gi_cons wd_671 (gi_nil))))))))))))))))))))))))
theorem wd_680 : GW (.methodLink RX8 41 yX8_flip) := ⟨in_wsL_law_r29 _ (List.mem_of_getElem? (i := 20) rfl), good_of_word (by decide +kernel)⟩
theorem wd_681 : GW (.methodLink RX8 34 yX1_holds) := ⟨in_wsL_law_r29 _ (List.mem_of_getElem? (i := 19) rfl), good_of_word (by decide +kernel)⟩
set_option maxRecDepth 20000 in
theorem gr_wsX9_extreme_r7 : GoodIn lw_tbl wsX9_extreme_r7 := gi_cons wd_553 (gi_cons wd_552 (gi_cons wd_551 (gi_cons wd_550 (gi_cons wd_549 (gi_cons wd_548 (gi_cons wd_547 (gi_cons wd_681 (gi_cons wd_680 (gi_cons wd_582 (gi_cons wd_581 (gi_cons wd_585 (gi_cons wd_589 (gi_cons wd_588 (gi_cons wd_587 (gi_cons wd_586 (gi_nil))))))))))))))))
set_option maxRecDepth 20000 in
theorem gr_wsX9_extreme : GoodIn lw_tbl wsX9_extreme := gi_cons wd_670 (goodIn_app (goodIn_app (goodIn_app (goodIn_app (goodIn_app (goodIn_app (gr_wsX9_extreme_r1) (goodIn_app (gr_wsX9_extreme_r2) (goodIn_app (gr_wsX9_extreme_r3) (goodIn_app (gr_wsX9_extreme_r4) (goodIn_app (gr_wsX9_extreme_r5) (goodIn_app (gr_wsX9_extreme_r6) (gr_wsX9_extreme_r7))))))) (gu_X9)) (gu_X8)) (gu_X7)) (gu_X4)) (gu_X3))
theorem wd_682 : GW (.methodLink RL 86 yX9_extreme) := ⟨in_wsL_law_r29 _ (List.mem_of_getElem? (i := 6) rfl), good_of_word (by decide +kernel)⟩
theorem wd_683 : GW (.instanceMethod yX9_extreme) := ⟨in_wsL_law_r29 _ (List.mem_of_getElem? (i := 7) rfl), good_of_word (by decide +kernel)⟩
theorem wd_684 : GW (.selects RX9 yX9_extreme yX9_extreme) := ⟨in_wsL_law_r29 _ (List.mem_of_getElem? (i := 8) rfl), good_of_word (by decide +kernel)⟩
theorem gq_X9_extreme : GoodIn lw_tbl (wsV RL 86 RX9 yX9_extreme wsX9_extreme) := goodIn_app (gi_cons wd_682 (gi_cons wd_683 (gi_cons wd_684 (gi_cons wd_82 gi_nil)))) gr_wsX9_extreme
theorem wd_685 : GW (.code yX10_extreme cX10_extreme 5 (some .int)) := ⟨in_wsL_law_r30 _ (List.mem_of_getElem? (i := 0) rfl), good_of_word (by decide +kernel)⟩
set_option maxRecDepth 20000 in
theorem gr_wsX10_extreme_r1 : GoodIn lw_tbl wsX10_extreme_r1 := gi_cons wd_127 (gi_cons wd_316 (gi_cons wd_484 (gi_cons wd_483 (gi_cons wd_256 (gi_cons wd_255 (gi_cons wd_254 (gi_cons wd_140 (gi_cons wd_253 (gi_cons wd_145 (gi_cons wd_252 (gi_cons wd_251 (gi_cons wd_250 (gi_cons wd_249 (gi_cons wd_129 (gi_cons wd_248 (gi_cons wd_247 (gi_cons wd_246 (gi_cons wd_245 (gi_cons wd_161 (gi_cons wd_160 (gi_cons wd_159 (gi_cons wd_158 (gi_cons wd_63 (gi_nil))))))))))))))))))))))))
set_option maxRecDepth 20000 in
theorem gr_wsX10_extreme_r2 : GoodIn lw_tbl wsX10_extreme_r2 := gi_cons wd_241 (gi_cons wd_240 (gi_cons wd_239 (gi_cons wd_238 (gi_cons wd_51 (gi_cons wd_263 (gi_cons wd_262 (gi_cons wd_261 (gi_cons wd_151 (gi_cons wd_150 (gi_cons wd_149 (gi_cons wd_142 (gi_cons wd_141 (gi_cons wd_139 (gi_cons wd_148 (gi_cons wd_147 (gi_cons wd_181 (gi_cons wd_260 (gi_cons wd_259 (gi_cons wd_258 (gi_cons wd_257 (gi_cons wd_138 (gi_cons wd_137 (gi_cons wd_136 (gi_nil))))))))))))))))))))))))
set_option maxRecDepth 20000 in
theorem gr_wsX10_extreme_r3 : GoodIn lw_tbl wsX10_extreme_r3 := gi_cons wd_135 (gi_cons wd_134 (gi_cons wd_404 (gi_cons wd_403 (gi_cons wd_402 (gi_cons wd_401 (gi_cons wd_400 (gi_cons wd_399 (gi_cons wd_398 (gi_cons wd_397 (gi_cons wd_396 (gi_cons wd_395 (gi_cons wd_394 (gi_cons wd_126 (gi_cons wd_125 (gi_cons wd_124 (gi_cons wd_123 (gi_cons wd_169 (gi_cons wd_168 (gi_cons wd_167 (gi_cons wd_166 (gi_cons wd_413 (gi_cons wd_412 (gi_cons wd_411 (gi_nil))))))))))))))))))))))))
set_option maxRecDepth 20000 in
theorem gr_wsX10_extreme_r4 : GoodIn lw_tbl wsX10_extreme_r4 := gi_cons wd_410 (gi_cons wd_165 (gi_cons wd_164 (gi_cons wd_163 (gi_cons wd_162 (gi_cons wd_409 (gi_cons wd_408 (gi_cons wd_407 (gi_cons wd_406 (gi_cons wd_50 (gi_cons wd_405 (gi_cons wd_420 (gi_cons wd_419 (gi_cons wd_418 (gi_cons wd_143 (gi_cons wd_417 (gi_cons wd_416 (gi_cons wd_415 (gi_cons wd_414 (gi_cons wd_482 (gi_cons wd_491 (gi_cons wd_490 (gi_cons wd_489 (gi_cons wd_574 (gi_nil))))))))))))))))))))))))
theorem wd_686 : GW (.code yX10_isDown cX10_isDown 2 (some .boolean)) := ⟨in_wsL_law_r30 _ (List.mem_of_getElem? (i := 3) rfl), good_of_word (by decide +kernel)⟩
theorem wd_687 : GW (.static yX10_isDown) := ⟨in_wsL_law_r30 _ (List.mem_of_getElem? (i := 2) rfl), good_of_word (by decide +kernel)⟩
theorem wd_688 : GW (.methodLink RX10 260 yX10_isDown) := ⟨in_wsL_law_r30 _ (List.mem_of_getElem? (i := 1) rfl), good_of_word (by decide +kernel)⟩
set_option maxRecDepth 20000 in
theorem gr_wsX10_extreme_r5 : GoodIn lw_tbl wsX10_extreme_r5 := gi_cons wd_573 (gi_cons wd_572 (gi_cons wd_571 (gi_cons wd_688 (gi_cons wd_687 (gi_cons wd_686 (gi_cons wd_244 (gi_cons wd_243 (gi_cons wd_242 (gi_cons wd_599 (gi_cons wd_598 (gi_cons wd_597 (gi_cons wd_596 (gi_cons wd_595 (gi_cons wd_594 (gi_cons wd_508 (gi_cons wd_507 (gi_cons wd_506 (gi_cons wd_505 (gi_nil)))))))))))))))))))
set_option maxRecDepth 20000 in
theorem gr_wsX10_extreme : GoodIn lw_tbl wsX10_extreme := gi_cons wd_685 (goodIn_app (goodIn_app (gr_wsX10_extreme_r1) (goodIn_app (gr_wsX10_extreme_r2) (goodIn_app (gr_wsX10_extreme_r3) (goodIn_app (gr_wsX10_extreme_r4) (gr_wsX10_extreme_r5))))) (gu_X10))
theorem wd_689 : GW (.methodLink RL 90 yX10_extreme) := ⟨in_wsL_law_r29 _ (List.mem_of_getElem? (i := 21) rfl), good_of_word (by decide +kernel)⟩
theorem wd_690 : GW (.instanceMethod yX10_extreme) := ⟨in_wsL_law_r29 _ (List.mem_of_getElem? (i := 22) rfl), good_of_word (by decide +kernel)⟩
theorem wd_691 : GW (.selects RX10 yX10_extreme yX10_extreme) := ⟨in_wsL_law_r29 _ (List.mem_of_getElem? (i := 23) rfl), good_of_word (by decide +kernel)⟩
theorem gq_X10_extreme : GoodIn lw_tbl (wsV RL 90 RX10 yX10_extreme wsX10_extreme) := goodIn_app (gi_cons wd_689 (gi_cons wd_690 (gi_cons wd_691 (gi_cons wd_140 gi_nil)))) gr_wsX10_extreme
theorem wd_692 : GW (.code yX9_apart cX9_apart 3 (some .int)) := ⟨in_wsL_law_r30 _ (List.mem_of_getElem? (i := 7) rfl), good_of_word (by decide +kernel)⟩
set_option maxRecDepth 20000 in
theorem gr_wsX9_apart_r1 : GoodIn lw_tbl wsX9_apart_r1 := gi_cons wd_70 (gi_cons wd_89 (gi_cons wd_14 (gi_cons wd_231 (gi_cons wd_230 (gi_cons wd_229 (gi_cons wd_82 (gi_cons wd_228 (gi_cons wd_88 (gi_cons wd_227 (gi_cons wd_226 (gi_cons wd_225 (gi_cons wd_224 (gi_cons wd_75 (gi_cons wd_74 (gi_cons wd_72 (gi_cons wd_223 (gi_cons wd_222 (gi_cons wd_221 (gi_cons wd_220 (gi_cons wd_219 (gi_cons wd_218 (gi_cons wd_217 (gi_cons wd_216 (gi_nil))))))))))))))))))))))))
set_option maxRecDepth 20000 in
theorem gr_wsX9_apart_r2 : GoodIn lw_tbl wsX9_apart_r2 := gi_cons wd_215 (gi_cons wd_214 (gi_cons wd_66 (gi_cons wd_233 (gi_cons wd_108 (gi_cons wd_107 (gi_cons wd_232 (gi_cons wd_211 (gi_cons wd_210 (gi_cons wd_209 (gi_cons wd_190 (gi_cons wd_189 (gi_cons wd_208 (gi_cons wd_207 (gi_cons wd_206 (gi_cons wd_106 (gi_cons wd_105 (gi_cons wd_104 (gi_cons wd_103 (gi_cons wd_102 (gi_cons wd_85 (gi_cons wd_84 (gi_cons wd_83 (gi_cons wd_81 (gi_nil))))))))))))))))))))))))
set_option maxRecDepth 20000 in
theorem gr_wsX9_apart_r3 : GoodIn lw_tbl wsX9_apart_r3 := gi_cons wd_80 (gi_cons wd_449 (gi_cons wd_448 (gi_cons wd_447 (gi_cons wd_446 (gi_cons wd_369 (gi_cons wd_368 (gi_cons wd_367 (gi_cons wd_366 (gi_cons wd_365 (gi_cons wd_364 (gi_cons wd_363 (gi_cons wd_362 (gi_cons wd_86 (gi_cons wd_361 (gi_cons wd_360 (gi_cons wd_359 (gi_cons wd_23 (gi_cons wd_22 (gi_cons wd_42 (gi_cons wd_358 (gi_cons wd_357 (gi_cons wd_382 (gi_cons wd_381 (gi_nil))))))))))))))))))))))))
set_option maxRecDepth 20000 in
theorem gr_wsX9_apart_r4 : GoodIn lw_tbl wsX9_apart_r4 := gi_cons wd_380 (gi_cons wd_379 (gi_cons wd_378 (gi_cons wd_377 (gi_cons wd_376 (gi_cons wd_375 (gi_cons wd_374 (gi_cons wd_373 (gi_cons wd_372 (gi_cons wd_371 (gi_cons wd_370 (gi_cons wd_389 (gi_cons wd_388 (gi_cons wd_387 (gi_cons wd_386 (gi_cons wd_385 (gi_cons wd_384 (gi_cons wd_383 (gi_cons wd_453 (gi_cons wd_452 (gi_cons wd_451 (gi_cons wd_450 (gi_cons wd_472 (gi_cons wd_471 (gi_nil))))))))))))))))))))))))
set_option maxRecDepth 20000 in
theorem gr_wsX9_apart_r5 : GoodIn lw_tbl wsX9_apart_r5 := gi_cons wd_347 (gi_cons wd_470 (gi_cons wd_469 (gi_cons wd_468 (gi_cons wd_467 (gi_cons wd_466 (gi_cons wd_465 (gi_cons wd_464 (gi_cons wd_463 (gi_cons wd_462 (gi_cons wd_461 (gi_cons wd_460 (gi_cons wd_459 (gi_cons wd_458 (gi_cons wd_457 (gi_cons wd_456 (gi_cons wd_455 (gi_cons wd_433 (gi_cons wd_454 (gi_cons wd_431 (gi_cons wd_430 (gi_cons wd_429 (gi_cons wd_428 (gi_cons wd_341 (gi_nil))))))))))))))))))))))))
theorem wd_693 : GW (.fieldLink RX9 252 "ParquetLayer$Heights" "there" "[I") := ⟨in_wsL_law_r30 _ (List.mem_of_getElem? (i := 12) rfl), good_of_word (by decide +kernel)⟩
theorem wd_694 : GW (.code yX9_measureBoth cX9_measureBoth 3 none) := ⟨in_wsL_law_r30 _ (List.mem_of_getElem? (i := 11) rfl), good_of_word (by decide +kernel)⟩
theorem wd_695 : GW (.selects RX9 yX9_measureBoth yX9_measureBoth) := ⟨in_wsL_law_r30 _ (List.mem_of_getElem? (i := 10) rfl), good_of_word (by decide +kernel)⟩
theorem wd_696 : GW (.instanceMethod yX9_measureBoth) := ⟨in_wsL_law_r30 _ (List.mem_of_getElem? (i := 9) rfl), good_of_word (by decide +kernel)⟩
theorem wd_697 : GW (.methodLink RX9 245 yX9_measureBoth) := ⟨in_wsL_law_r30 _ (List.mem_of_getElem? (i := 8) rfl), good_of_word (by decide +kernel)⟩
set_option maxRecDepth 20000 in
theorem gr_wsX9_apart_r6 : GoodIn lw_tbl wsX9_apart_r6 := gi_cons wd_342 (gi_cons wd_477 (gi_cons wd_476 (gi_cons wd_475 (gi_cons wd_474 (gi_cons wd_473 (gi_cons wd_344 (gi_cons wd_345 (gi_cons wd_697 (gi_cons wd_696 (gi_cons wd_695 (gi_cons wd_694 (gi_cons wd_604 (gi_cons wd_693 (gi_cons wd_616 (gi_cons wd_615 (gi_cons wd_614 (gi_cons wd_15 (gi_cons wd_613 (gi_cons wd_38 (gi_cons wd_612 (gi_cons wd_39 (gi_cons wd_611 (gi_cons wd_610 (gi_nil))))))))))))))))))))))))
set_option maxRecDepth 20000 in
theorem gr_wsX9_apart_r7 : GoodIn lw_tbl wsX9_apart_r7 := gi_cons wd_609 (gi_cons wd_608 (gi_cons wd_607 (gi_cons wd_606 (gi_cons wd_605 (gi_cons wd_642 (gi_cons wd_641 (gi_cons wd_640 (gi_cons wd_639 (gi_cons wd_638 (gi_cons wd_637 (gi_cons wd_636 (gi_cons wd_635 (gi_cons wd_634 (gi_cons wd_633 (gi_cons wd_632 (gi_cons wd_631 (gi_cons wd_619 (gi_cons wd_618 (gi_cons wd_617 (gi_cons wd_630 (gi_cons wd_629 (gi_cons wd_628 (gi_cons wd_627 (gi_nil))))))))))))))))))))))))
theorem wd_698 : GW (.code Lib.Math.abs.name Lib.Math.abs.code 1 (some .int)) := ⟨in_wsL_law_r30 _ (List.mem_of_getElem? (i := 20) rfl), good_of_word (by decide +kernel)⟩
theorem wd_699 : GW (.initialized "java/lang/Math") := ⟨in_wsL_law_r30 _ (List.mem_of_getElem? (i := 19) rfl), good_of_word (by decide +kernel)⟩
theorem wd_700 : GW (.static Lib.Math.abs.name) := ⟨in_wsL_law_r30 _ (List.mem_of_getElem? (i := 18) rfl), good_of_word (by decide +kernel)⟩
theorem wd_701 : GW (.methodLink RX2 73 Lib.Math.abs.name) := ⟨in_wsL_law_r30 _ (List.mem_of_getElem? (i := 17) rfl), good_of_word (by decide +kernel)⟩
theorem wd_702 : GW (.code yX2_distance cX2_distance 3 (some .int)) := ⟨in_wsL_law_r30 _ (List.mem_of_getElem? (i := 16) rfl), good_of_word (by decide +kernel)⟩
theorem wd_703 : GW (.selects RX2 yX2_distance yX2_distance) := ⟨in_wsL_law_r30 _ (List.mem_of_getElem? (i := 15) rfl), good_of_word (by decide +kernel)⟩
theorem wd_704 : GW (.instanceMethod yX2_distance) := ⟨in_wsL_law_r30 _ (List.mem_of_getElem? (i := 14) rfl), good_of_word (by decide +kernel)⟩
theorem wd_705 : GW (.methodLink RX9 249 yX2_distance) := ⟨in_wsL_law_r30 _ (List.mem_of_getElem? (i := 13) rfl), good_of_word (by decide +kernel)⟩
set_option maxRecDepth 20000 in
theorem gr_wsX9_apart_r8 : GoodIn lw_tbl wsX9_apart_r8 := gi_cons wd_626 (gi_cons wd_625 (gi_cons wd_624 (gi_cons wd_705 (gi_cons wd_704 (gi_cons wd_703 (gi_cons wd_702 (gi_cons wd_41 (gi_cons wd_40 (gi_cons wd_701 (gi_cons wd_700 (gi_cons wd_699 (gi_cons wd_698 (gi_nil)))))))))))))
set_option maxRecDepth 20000 in
theorem gr_wsX9_apart : GoodIn lw_tbl wsX9_apart := gi_cons wd_692 (goodIn_app (goodIn_app (goodIn_app (goodIn_app (goodIn_app (goodIn_app (gr_wsX9_apart_r1) (goodIn_app (gr_wsX9_apart_r2) (goodIn_app (gr_wsX9_apart_r3) (goodIn_app (gr_wsX9_apart_r4) (goodIn_app (gr_wsX9_apart_r5) (goodIn_app (gr_wsX9_apart_r6) (goodIn_app (gr_wsX9_apart_r7) (gr_wsX9_apart_r8)))))))) (gu_X9)) (gu_X7)) (gu_X4)) (gu_X3)) (gu_X2))
theorem wd_706 : GW (.methodLink RL 91 yX9_apart) := ⟨in_wsL_law_r30 _ (List.mem_of_getElem? (i := 4) rfl), good_of_word (by decide +kernel)⟩
theorem wd_707 : GW (.instanceMethod yX9_apart) := ⟨in_wsL_law_r30 _ (List.mem_of_getElem? (i := 5) rfl), good_of_word (by decide +kernel)⟩
theorem wd_708 : GW (.selects RX9 yX9_apart yX9_apart) := ⟨in_wsL_law_r30 _ (List.mem_of_getElem? (i := 6) rfl), good_of_word (by decide +kernel)⟩
theorem gq_X9_apart : GoodIn lw_tbl (wsV RL 91 RX9 yX9_apart wsX9_apart) := goodIn_app (gi_cons wd_706 (gi_cons wd_707 (gi_cons wd_708 (gi_cons wd_82 gi_nil)))) gr_wsX9_apart
theorem wd_709 : GW (.code yX10_apart cX10_apart 4 (some .int)) := ⟨in_wsL_law_r31 _ (List.mem_of_getElem? (i := 0) rfl), good_of_word (by decide +kernel)⟩
theorem wd_710 : GW (.code yX10_against cX10_against 4 (some .int)) := ⟨in_wsL_law_r31 _ (List.mem_of_getElem? (i := 4) rfl), good_of_word (by decide +kernel)⟩
theorem wd_711 : GW (.selects RX10 yX10_against yX10_against) := ⟨in_wsL_law_r31 _ (List.mem_of_getElem? (i := 3) rfl), good_of_word (by decide +kernel)⟩
theorem wd_712 : GW (.instanceMethod yX10_against) := ⟨in_wsL_law_r31 _ (List.mem_of_getElem? (i := 2) rfl), good_of_word (by decide +kernel)⟩
theorem wd_713 : GW (.methodLink RX10 268 yX10_against) := ⟨in_wsL_law_r31 _ (List.mem_of_getElem? (i := 1) rfl), good_of_word (by decide +kernel)⟩
set_option maxRecDepth 20000 in
theorem gr_wsX10_apart_r1 : GoodIn lw_tbl wsX10_apart_r1 := gi_cons wd_713 (gi_cons wd_712 (gi_cons wd_711 (gi_cons wd_140 (gi_cons wd_710 (gi_cons wd_127 (gi_cons wd_146 (gi_cons wd_484 (gi_cons wd_483 (gi_cons wd_48 (gi_cons wd_49 (gi_cons wd_256 (gi_cons wd_255 (gi_cons wd_254 (gi_cons wd_253 (gi_cons wd_145 (gi_cons wd_252 (gi_cons wd_251 (gi_cons wd_250 (gi_cons wd_249 (gi_cons wd_129 (gi_cons wd_248 (gi_cons wd_247 (gi_cons wd_246 (gi_nil))))))))))))))))))))))))
set_option maxRecDepth 20000 in
theorem gr_wsX10_apart_r2 : GoodIn lw_tbl wsX10_apart_r2 := gi_cons wd_245 (gi_cons wd_161 (gi_cons wd_160 (gi_cons wd_159 (gi_cons wd_158 (gi_cons wd_63 (gi_cons wd_241 (gi_cons wd_240 (gi_cons wd_239 (gi_cons wd_238 (gi_cons wd_51 (gi_cons wd_263 (gi_cons wd_262 (gi_cons wd_261 (gi_cons wd_151 (gi_cons wd_150 (gi_cons wd_149 (gi_cons wd_142 (gi_cons wd_141 (gi_cons wd_139 (gi_cons wd_148 (gi_cons wd_147 (gi_cons wd_181 (gi_cons wd_260 (gi_nil))))))))))))))))))))))))
set_option maxRecDepth 20000 in
theorem gr_wsX10_apart_r3 : GoodIn lw_tbl wsX10_apart_r3 := gi_cons wd_259 (gi_cons wd_258 (gi_cons wd_257 (gi_cons wd_404 (gi_cons wd_403 (gi_cons wd_402 (gi_cons wd_401 (gi_cons wd_400 (gi_cons wd_399 (gi_cons wd_398 (gi_cons wd_397 (gi_cons wd_396 (gi_cons wd_395 (gi_cons wd_394 (gi_cons wd_126 (gi_cons wd_125 (gi_cons wd_124 (gi_cons wd_123 (gi_cons wd_169 (gi_cons wd_168 (gi_cons wd_167 (gi_cons wd_166 (gi_cons wd_413 (gi_cons wd_412 (gi_nil))))))))))))))))))))))))
set_option maxRecDepth 20000 in
theorem gr_wsX10_apart_r4 : GoodIn lw_tbl wsX10_apart_r4 := gi_cons wd_411 (gi_cons wd_410 (gi_cons wd_165 (gi_cons wd_164 (gi_cons wd_163 (gi_cons wd_162 (gi_cons wd_409 (gi_cons wd_408 (gi_cons wd_407 (gi_cons wd_406 (gi_cons wd_50 (gi_cons wd_405 (gi_cons wd_420 (gi_cons wd_419 (gi_cons wd_418 (gi_cons wd_143 (gi_cons wd_417 (gi_cons wd_416 (gi_cons wd_415 (gi_cons wd_414 (gi_cons wd_482 (gi_cons wd_491 (gi_cons wd_490 (gi_cons wd_489 (gi_nil))))))))))))))))))))))))
set_option maxRecDepth 20000 in
theorem gr_wsX10_apart_r5 : GoodIn lw_tbl wsX10_apart_r5 := gi_cons wd_659 (gi_cons wd_658 (gi_cons wd_657 (gi_cons wd_656 (gi_cons wd_655 (gi_cons wd_663 (gi_cons wd_662 (gi_cons wd_661 (gi_cons wd_660 (gi_cons wd_654 (gi_cons wd_653 (gi_cons wd_652 (gi_cons wd_651 (gi_cons wd_244 (gi_cons wd_243 (gi_cons wd_242 (gi_cons wd_650 (gi_cons wd_649 (gi_cons wd_648 (gi_cons wd_647 (gi_cons wd_666 (gi_cons wd_665 (gi_cons wd_664 (gi_cons wd_138 (gi_nil))))))))))))))))))))))))
theorem wd_714 : GW (.methodLink RX10 263 Lib.Math.abs.name) := ⟨in_wsL_law_r31 _ (List.mem_of_getElem? (i := 9) rfl), good_of_word (by decide +kernel)⟩
theorem wd_715 : GW (.code yX10_apartNow cX10_apartNow 3 (some .int)) := ⟨in_wsL_law_r31 _ (List.mem_of_getElem? (i := 8) rfl), good_of_word (by decide +kernel)⟩
theorem wd_716 : GW (.selects RX10 yX10_apartNow yX10_apartNow) := ⟨in_wsL_law_r31 _ (List.mem_of_getElem? (i := 7) rfl), good_of_word (by decide +kernel)⟩
theorem wd_717 : GW (.instanceMethod yX10_apartNow) := ⟨in_wsL_law_r31 _ (List.mem_of_getElem? (i := 6) rfl), good_of_word (by decide +kernel)⟩
theorem wd_718 : GW (.methodLink RX10 271 yX10_apartNow) := ⟨in_wsL_law_r31 _ (List.mem_of_getElem? (i := 5) rfl), good_of_word (by decide +kernel)⟩
set_option maxRecDepth 20000 in
theorem gr_wsX10_apart_r6 : GoodIn lw_tbl wsX10_apart_r6 := gi_cons wd_137 (gi_cons wd_136 (gi_cons wd_135 (gi_cons wd_134 (gi_cons wd_718 (gi_cons wd_717 (gi_cons wd_716 (gi_cons wd_715 (gi_cons wd_714 (gi_cons wd_700 (gi_cons wd_699 (gi_cons wd_698 (gi_nil))))))))))))
set_option maxRecDepth 20000 in
theorem gr_wsX10_apart : GoodIn lw_tbl wsX10_apart := gi_cons wd_709 (goodIn_app (goodIn_app (gr_wsX10_apart_r1) (goodIn_app (gr_wsX10_apart_r2) (goodIn_app (gr_wsX10_apart_r3) (goodIn_app (gr_wsX10_apart_r4) (goodIn_app (gr_wsX10_apart_r5) (gr_wsX10_apart_r6)))))) (gu_X10))
theorem wd_719 : GW (.methodLink RL 94 yX10_apart) := ⟨in_wsL_law_r30 _ (List.mem_of_getElem? (i := 21) rfl), good_of_word (by decide +kernel)⟩
theorem wd_720 : GW (.instanceMethod yX10_apart) := ⟨in_wsL_law_r30 _ (List.mem_of_getElem? (i := 22) rfl), good_of_word (by decide +kernel)⟩
theorem wd_721 : GW (.selects RX10 yX10_apart yX10_apart) := ⟨in_wsL_law_r30 _ (List.mem_of_getElem? (i := 23) rfl), good_of_word (by decide +kernel)⟩
theorem gq_X10_apart : GoodIn lw_tbl (wsV RL 94 RX10 yX10_apart wsX10_apart) := goodIn_app (gi_cons wd_719 (gi_cons wd_720 (gi_cons wd_721 (gi_cons wd_140 gi_nil)))) gr_wsX10_apart
theorem wd_722 : GW (.code yX9_step cX9_step 7 (some .int)) := ⟨in_wsL_law_r31 _ (List.mem_of_getElem? (i := 13) rfl), good_of_word (by decide +kernel)⟩
set_option maxRecDepth 20000 in
theorem gr_wsX9_step_r1 : GoodIn lw_tbl wsX9_step_r1 := gi_cons wd_70 (gi_cons wd_89 (gi_cons wd_14 (gi_cons wd_311 (gi_cons wd_10 (gi_cons wd_604 (gi_cons wd_693 (gi_cons wd_231 (gi_cons wd_230 (gi_cons wd_229 (gi_cons wd_82 (gi_cons wd_228 (gi_cons wd_88 (gi_cons wd_227 (gi_cons wd_226 (gi_cons wd_225 (gi_cons wd_224 (gi_cons wd_75 (gi_cons wd_74 (gi_cons wd_72 (gi_cons wd_223 (gi_cons wd_222 (gi_cons wd_221 (gi_cons wd_220 (gi_nil))))))))))))))))))))))))
set_option maxRecDepth 20000 in
theorem gr_wsX9_step_r2 : GoodIn lw_tbl wsX9_step_r2 := gi_cons wd_219 (gi_cons wd_218 (gi_cons wd_217 (gi_cons wd_216 (gi_cons wd_215 (gi_cons wd_214 (gi_cons wd_66 (gi_cons wd_233 (gi_cons wd_108 (gi_cons wd_107 (gi_cons wd_232 (gi_cons wd_211 (gi_cons wd_210 (gi_cons wd_209 (gi_cons wd_190 (gi_cons wd_189 (gi_cons wd_208 (gi_cons wd_207 (gi_cons wd_206 (gi_cons wd_106 (gi_cons wd_105 (gi_cons wd_104 (gi_cons wd_103 (gi_cons wd_102 (gi_nil))))))))))))))))))))))))
set_option maxRecDepth 20000 in
theorem gr_wsX9_step_r3 : GoodIn lw_tbl wsX9_step_r3 := gi_cons wd_85 (gi_cons wd_84 (gi_cons wd_83 (gi_cons wd_81 (gi_cons wd_80 (gi_cons wd_449 (gi_cons wd_448 (gi_cons wd_447 (gi_cons wd_446 (gi_cons wd_369 (gi_cons wd_368 (gi_cons wd_367 (gi_cons wd_366 (gi_cons wd_365 (gi_cons wd_364 (gi_cons wd_363 (gi_cons wd_362 (gi_cons wd_86 (gi_cons wd_361 (gi_cons wd_360 (gi_cons wd_359 (gi_cons wd_23 (gi_cons wd_22 (gi_cons wd_42 (gi_nil))))))))))))))))))))))))
set_option maxRecDepth 20000 in
theorem gr_wsX9_step_r4 : GoodIn lw_tbl wsX9_step_r4 := gi_cons wd_358 (gi_cons wd_357 (gi_cons wd_382 (gi_cons wd_381 (gi_cons wd_380 (gi_cons wd_379 (gi_cons wd_378 (gi_cons wd_377 (gi_cons wd_376 (gi_cons wd_375 (gi_cons wd_374 (gi_cons wd_373 (gi_cons wd_372 (gi_cons wd_371 (gi_cons wd_370 (gi_cons wd_389 (gi_cons wd_388 (gi_cons wd_387 (gi_cons wd_386 (gi_cons wd_385 (gi_cons wd_384 (gi_cons wd_383 (gi_cons wd_453 (gi_cons wd_452 (gi_nil))))))))))))))))))))))))
set_option maxRecDepth 20000 in
theorem gr_wsX9_step_r5 : GoodIn lw_tbl wsX9_step_r5 := gi_cons wd_451 (gi_cons wd_450 (gi_cons wd_472 (gi_cons wd_471 (gi_cons wd_347 (gi_cons wd_470 (gi_cons wd_469 (gi_cons wd_468 (gi_cons wd_467 (gi_cons wd_466 (gi_cons wd_465 (gi_cons wd_464 (gi_cons wd_463 (gi_cons wd_462 (gi_cons wd_461 (gi_cons wd_460 (gi_cons wd_459 (gi_cons wd_458 (gi_cons wd_457 (gi_cons wd_456 (gi_cons wd_455 (gi_cons wd_433 (gi_cons wd_454 (gi_cons wd_431 (gi_nil))))))))))))))))))))))))
set_option maxRecDepth 20000 in
theorem gr_wsX9_step_r6 : GoodIn lw_tbl wsX9_step_r6 := gi_cons wd_430 (gi_cons wd_429 (gi_cons wd_428 (gi_cons wd_341 (gi_cons wd_342 (gi_cons wd_477 (gi_cons wd_476 (gi_cons wd_475 (gi_cons wd_474 (gi_cons wd_473 (gi_cons wd_344 (gi_cons wd_345 (gi_cons wd_697 (gi_cons wd_696 (gi_cons wd_695 (gi_cons wd_694 (gi_cons wd_616 (gi_cons wd_615 (gi_cons wd_614 (gi_cons wd_15 (gi_cons wd_613 (gi_cons wd_38 (gi_cons wd_612 (gi_cons wd_39 (gi_nil))))))))))))))))))))))))
set_option maxRecDepth 20000 in
theorem gr_wsX9_step_r7 : GoodIn lw_tbl wsX9_step_r7 := gi_cons wd_611 (gi_cons wd_610 (gi_cons wd_609 (gi_cons wd_608 (gi_cons wd_607 (gi_cons wd_606 (gi_cons wd_605 (gi_cons wd_642 (gi_cons wd_641 (gi_cons wd_640 (gi_cons wd_639 (gi_cons wd_638 (gi_cons wd_637 (gi_cons wd_636 (gi_cons wd_635 (gi_cons wd_634 (gi_cons wd_633 (gi_cons wd_632 (gi_cons wd_631 (gi_cons wd_619 (gi_cons wd_618 (gi_cons wd_617 (gi_cons wd_630 (gi_cons wd_629 (gi_nil))))))))))))))))))))))))
set_option maxRecDepth 20000 in
theorem gr_wsX9_step_r8 : GoodIn lw_tbl wsX9_step_r8 := gi_cons wd_628 (gi_cons wd_627 (gi_cons wd_626 (gi_cons wd_625 (gi_cons wd_624 (gi_cons wd_705 (gi_cons wd_704 (gi_cons wd_703 (gi_cons wd_702 (gi_cons wd_41 (gi_cons wd_40 (gi_cons wd_701 (gi_cons wd_700 (gi_cons wd_699 (gi_cons wd_698 (gi_cons wd_566 (gi_cons wd_565 (gi_cons wd_564 (gi_cons wd_11 (gi_cons wd_563 (gi_cons wd_562 (gi_cons wd_561 (gi_cons wd_560 (gi_cons wd_559 (gi_nil))))))))))))))))))))))))
theorem wd_723 : GW (.selects RX8 yX8_flipAlso yX8_flipAlso) := ⟨in_wsL_law_r31 _ (List.mem_of_getElem? (i := 23) rfl), good_of_word (by decide +kernel)⟩
theorem wd_724 : GW (.instanceMethod yX8_flipAlso) := ⟨in_wsL_law_r31 _ (List.mem_of_getElem? (i := 22) rfl), good_of_word (by decide +kernel)⟩
theorem wd_725 : GW (.methodLink RX9 259 yX8_flipAlso) := ⟨in_wsL_law_r31 _ (List.mem_of_getElem? (i := 21) rfl), good_of_word (by decide +kernel)⟩
theorem wd_726 : GW (.code yX2_pointAmid cX2_pointAmid 1 (some .int)) := ⟨in_wsL_law_r31 _ (List.mem_of_getElem? (i := 20) rfl), good_of_word (by decide +kernel)⟩
theorem wd_727 : GW (.static yX2_pointAmid) := ⟨in_wsL_law_r31 _ (List.mem_of_getElem? (i := 19) rfl), good_of_word (by decide +kernel)⟩
theorem wd_728 : GW (.methodLink RX8 45 yX2_pointAmid) := ⟨in_wsL_law_r31 _ (List.mem_of_getElem? (i := 18) rfl), good_of_word (by decide +kernel)⟩
theorem wd_729 : GW (.code yX8_leastToward cX8_leastToward 6 (some .int)) := ⟨in_wsL_law_r31 _ (List.mem_of_getElem? (i := 17) rfl), good_of_word (by decide +kernel)⟩
theorem wd_730 : GW (.selects RX8 yX8_leastToward yX8_leastToward) := ⟨in_wsL_law_r31 _ (List.mem_of_getElem? (i := 16) rfl), good_of_word (by decide +kernel)⟩
theorem wd_731 : GW (.instanceMethod yX8_leastToward) := ⟨in_wsL_law_r31 _ (List.mem_of_getElem? (i := 15) rfl), good_of_word (by decide +kernel)⟩
theorem wd_732 : GW (.methodLink RX9 255 yX8_leastToward) := ⟨in_wsL_law_r31 _ (List.mem_of_getElem? (i := 14) rfl), good_of_word (by decide +kernel)⟩
set_option maxRecDepth 20000 in
theorem gr_wsX9_step_r9 : GoodIn lw_tbl wsX9_step_r9 := gi_cons wd_558 (gi_cons wd_732 (gi_cons wd_731 (gi_cons wd_730 (gi_cons wd_729 (gi_cons wd_675 (gi_cons wd_674 (gi_cons wd_673 (gi_cons wd_672 (gi_cons wd_671 (gi_cons wd_553 (gi_cons wd_552 (gi_cons wd_551 (gi_cons wd_550 (gi_cons wd_549 (gi_cons wd_548 (gi_cons wd_547 (gi_cons wd_681 (gi_cons wd_728 (gi_cons wd_727 (gi_cons wd_726 (gi_cons wd_725 (gi_cons wd_724 (gi_cons wd_723 (gi_nil))))))))))))))))))))))))
theorem wd_733 : GW (.code yX8_flipAlso cX8_flipAlso 3 none) := ⟨in_wsL_law_r32 _ (List.mem_of_getElem? (i := 0) rfl), good_of_word (by decide +kernel)⟩
set_option maxRecDepth 20000 in
theorem gr_wsX9_step_r10 : GoodIn lw_tbl wsX9_step_r10 := gi_cons wd_733 (gi_cons wd_680 (gi_cons wd_582 (gi_cons wd_581 (gi_cons wd_585 (gi_nil)))))
set_option maxRecDepth 20000 in
theorem gr_wsX9_step : GoodIn lw_tbl wsX9_step := gi_cons wd_722 (goodIn_app (goodIn_app (goodIn_app (goodIn_app (goodIn_app (goodIn_app (goodIn_app (gr_wsX9_step_r1) (goodIn_app (gr_wsX9_step_r2) (goodIn_app (gr_wsX9_step_r3) (goodIn_app (gr_wsX9_step_r4) (goodIn_app (gr_wsX9_step_r5) (goodIn_app (gr_wsX9_step_r6) (goodIn_app (gr_wsX9_step_r7) (goodIn_app (gr_wsX9_step_r8) (goodIn_app (gr_wsX9_step_r9) (gr_wsX9_step_r10)))))))))) (gu_X9)) (gu_X2)) (gu_X7)) (gu_X4)) (gu_X3)) (gu_X8))
theorem wd_734 : GW (.methodLink RL 95 yX9_step) := ⟨in_wsL_law_r31 _ (List.mem_of_getElem? (i := 10) rfl), good_of_word (by decide +kernel)⟩
theorem wd_735 : GW (.instanceMethod yX9_step) := ⟨in_wsL_law_r31 _ (List.mem_of_getElem? (i := 11) rfl), good_of_word (by decide +kernel)⟩
theorem wd_736 : GW (.selects RX9 yX9_step yX9_step) := ⟨in_wsL_law_r31 _ (List.mem_of_getElem? (i := 12) rfl), good_of_word (by decide +kernel)⟩
theorem gq_X9_step : GoodIn lw_tbl (wsV RL 95 RX9 yX9_step wsX9_step) := goodIn_app (gi_cons wd_734 (gi_cons wd_735 (gi_cons wd_736 (gi_cons wd_82 gi_nil)))) gr_wsX9_step
theorem wd_737 : GW (.code yX10_step cX10_step 8 (some .int)) := ⟨in_wsL_law_r32 _ (List.mem_of_getElem? (i := 4) rfl), good_of_word (by decide +kernel)⟩
set_option maxRecDepth 20000 in
theorem gr_wsX10_step_r1 : GoodIn lw_tbl wsX10_step_r1 := gi_cons wd_316 (gi_cons wd_484 (gi_cons wd_483 (gi_cons wd_49 (gi_cons wd_713 (gi_cons wd_712 (gi_cons wd_711 (gi_cons wd_140 (gi_cons wd_710 (gi_cons wd_127 (gi_cons wd_146 (gi_cons wd_48 (gi_cons wd_256 (gi_cons wd_255 (gi_cons wd_254 (gi_cons wd_253 (gi_cons wd_145 (gi_cons wd_252 (gi_cons wd_251 (gi_cons wd_250 (gi_cons wd_249 (gi_cons wd_129 (gi_cons wd_248 (gi_cons wd_247 (gi_nil))))))))))))))))))))))))
set_option maxRecDepth 20000 in
theorem gr_wsX10_step_r2 : GoodIn lw_tbl wsX10_step_r2 := gi_cons wd_246 (gi_cons wd_245 (gi_cons wd_161 (gi_cons wd_160 (gi_cons wd_159 (gi_cons wd_158 (gi_cons wd_63 (gi_cons wd_241 (gi_cons wd_240 (gi_cons wd_239 (gi_cons wd_238 (gi_cons wd_51 (gi_cons wd_263 (gi_cons wd_262 (gi_cons wd_261 (gi_cons wd_151 (gi_cons wd_150 (gi_cons wd_149 (gi_cons wd_142 (gi_cons wd_141 (gi_cons wd_139 (gi_cons wd_148 (gi_cons wd_147 (gi_cons wd_181 (gi_nil))))))))))))))))))))))))
set_option maxRecDepth 20000 in
theorem gr_wsX10_step_r3 : GoodIn lw_tbl wsX10_step_r3 := gi_cons wd_260 (gi_cons wd_259 (gi_cons wd_258 (gi_cons wd_257 (gi_cons wd_404 (gi_cons wd_403 (gi_cons wd_402 (gi_cons wd_401 (gi_cons wd_400 (gi_cons wd_399 (gi_cons wd_398 (gi_cons wd_397 (gi_cons wd_396 (gi_cons wd_395 (gi_cons wd_394 (gi_cons wd_126 (gi_cons wd_125 (gi_cons wd_124 (gi_cons wd_123 (gi_cons wd_169 (gi_cons wd_168 (gi_cons wd_167 (gi_cons wd_166 (gi_cons wd_413 (gi_nil))))))))))))))))))))))))
set_option maxRecDepth 20000 in
theorem gr_wsX10_step_r4 : GoodIn lw_tbl wsX10_step_r4 := gi_cons wd_412 (gi_cons wd_411 (gi_cons wd_410 (gi_cons wd_165 (gi_cons wd_164 (gi_cons wd_163 (gi_cons wd_162 (gi_cons wd_409 (gi_cons wd_408 (gi_cons wd_407 (gi_cons wd_406 (gi_cons wd_50 (gi_cons wd_405 (gi_cons wd_420 (gi_cons wd_419 (gi_cons wd_418 (gi_cons wd_143 (gi_cons wd_417 (gi_cons wd_416 (gi_cons wd_415 (gi_cons wd_414 (gi_cons wd_482 (gi_cons wd_491 (gi_cons wd_490 (gi_nil))))))))))))))))))))))))
set_option maxRecDepth 20000 in
theorem gr_wsX10_step_r5 : GoodIn lw_tbl wsX10_step_r5 := gi_cons wd_489 (gi_cons wd_659 (gi_cons wd_658 (gi_cons wd_657 (gi_cons wd_656 (gi_cons wd_655 (gi_cons wd_663 (gi_cons wd_662 (gi_cons wd_661 (gi_cons wd_660 (gi_cons wd_654 (gi_cons wd_653 (gi_cons wd_652 (gi_cons wd_651 (gi_cons wd_244 (gi_cons wd_243 (gi_cons wd_242 (gi_cons wd_650 (gi_cons wd_649 (gi_cons wd_648 (gi_cons wd_647 (gi_cons wd_666 (gi_cons wd_665 (gi_cons wd_664 (gi_nil))))))))))))))))))))))))
theorem wd_738 : GW (.code yX10_midst cX10_midst 1 (some .int)) := ⟨in_wsL_law_r32 _ (List.mem_of_getElem? (i := 11) rfl), good_of_word (by decide +kernel)⟩
theorem wd_739 : GW (.static yX10_midst) := ⟨in_wsL_law_r32 _ (List.mem_of_getElem? (i := 10) rfl), good_of_word (by decide +kernel)⟩
theorem wd_740 : GW (.methodLink RX10 277 yX10_midst) := ⟨in_wsL_law_r32 _ (List.mem_of_getElem? (i := 9) rfl), good_of_word (by decide +kernel)⟩
theorem wd_741 : GW (.code yX10_nearer cX10_nearer 4 (some .int)) := ⟨in_wsL_law_r32 _ (List.mem_of_getElem? (i := 8) rfl), good_of_word (by decide +kernel)⟩
theorem wd_742 : GW (.selects RX10 yX10_nearer yX10_nearer) := ⟨in_wsL_law_r32 _ (List.mem_of_getElem? (i := 7) rfl), good_of_word (by decide +kernel)⟩
theorem wd_743 : GW (.instanceMethod yX10_nearer) := ⟨in_wsL_law_r32 _ (List.mem_of_getElem? (i := 6) rfl), good_of_word (by decide +kernel)⟩
theorem wd_744 : GW (.methodLink RX10 274 yX10_nearer) := ⟨in_wsL_law_r32 _ (List.mem_of_getElem? (i := 5) rfl), good_of_word (by decide +kernel)⟩
set_option maxRecDepth 20000 in
theorem gr_wsX10_step_r6 : GoodIn lw_tbl wsX10_step_r6 := gi_cons wd_138 (gi_cons wd_137 (gi_cons wd_136 (gi_cons wd_135 (gi_cons wd_134 (gi_cons wd_718 (gi_cons wd_717 (gi_cons wd_716 (gi_cons wd_715 (gi_cons wd_714 (gi_cons wd_700 (gi_cons wd_699 (gi_cons wd_698 (gi_cons wd_744 (gi_cons wd_743 (gi_cons wd_742 (gi_cons wd_741 (gi_cons wd_574 (gi_cons wd_573 (gi_cons wd_572 (gi_cons wd_571 (gi_cons wd_740 (gi_cons wd_739 (gi_cons wd_738 (gi_nil))))))))))))))))))))))))
set_option maxRecDepth 20000 in
theorem gr_wsX10_step_r7 : GoodIn lw_tbl wsX10_step_r7 := gi_cons wd_688 (gi_cons wd_687 (gi_cons wd_686 (gi_cons wd_599 (gi_cons wd_598 (gi_cons wd_597 (gi_cons wd_596 (gi_cons wd_595 (gi_cons wd_594 (gi_nil)))))))))
set_option maxRecDepth 20000 in
theorem gr_wsX10_step : GoodIn lw_tbl wsX10_step := gi_cons wd_737 (goodIn_app (goodIn_app (gr_wsX10_step_r1) (goodIn_app (gr_wsX10_step_r2) (goodIn_app (gr_wsX10_step_r3) (goodIn_app (gr_wsX10_step_r4) (goodIn_app (gr_wsX10_step_r5) (goodIn_app (gr_wsX10_step_r6) (gr_wsX10_step_r7))))))) (gu_X10))
theorem wd_745 : GW (.methodLink RL 99 yX10_step) := ⟨in_wsL_law_r32 _ (List.mem_of_getElem? (i := 1) rfl), good_of_word (by decide +kernel)⟩
theorem wd_746 : GW (.instanceMethod yX10_step) := ⟨in_wsL_law_r32 _ (List.mem_of_getElem? (i := 2) rfl), good_of_word (by decide +kernel)⟩
theorem wd_747 : GW (.selects RX10 yX10_step yX10_step) := ⟨in_wsL_law_r32 _ (List.mem_of_getElem? (i := 3) rfl), good_of_word (by decide +kernel)⟩
theorem gq_X10_step : GoodIn lw_tbl (wsV RL 99 RX10 yX10_step wsX10_step) := goodIn_app (gi_cons wd_745 (gi_cons wd_746 (gi_cons wd_747 (gi_cons wd_140 gi_nil)))) gr_wsX10_step
theorem wd_748 : GW (.code yX9_meet cX9_meet 4 (some .int)) := ⟨in_wsL_law_r32 _ (List.mem_of_getElem? (i := 15) rfl), good_of_word (by decide +kernel)⟩
set_option maxRecDepth 20000 in
theorem gr_wsX9_meet_r1 : GoodIn lw_tbl wsX9_meet_r1 := gi_cons wd_70 (gi_cons wd_89 (gi_cons wd_14 (gi_cons wd_88 (gi_cons wd_231 (gi_cons wd_230 (gi_cons wd_229 (gi_cons wd_82 (gi_cons wd_228 (gi_cons wd_227 (gi_cons wd_226 (gi_cons wd_225 (gi_cons wd_224 (gi_cons wd_75 (gi_cons wd_74 (gi_cons wd_72 (gi_cons wd_223 (gi_cons wd_222 (gi_cons wd_221 (gi_cons wd_220 (gi_cons wd_219 (gi_cons wd_218 (gi_cons wd_217 (gi_cons wd_216 (gi_nil))))))))))))))))))))))))
set_option maxRecDepth 20000 in
theorem gr_wsX9_meet_r2 : GoodIn lw_tbl wsX9_meet_r2 := gi_cons wd_215 (gi_cons wd_214 (gi_cons wd_66 (gi_cons wd_233 (gi_cons wd_108 (gi_cons wd_107 (gi_cons wd_232 (gi_cons wd_211 (gi_cons wd_210 (gi_cons wd_209 (gi_cons wd_190 (gi_cons wd_189 (gi_cons wd_208 (gi_cons wd_207 (gi_cons wd_206 (gi_cons wd_106 (gi_cons wd_105 (gi_cons wd_104 (gi_cons wd_103 (gi_cons wd_102 (gi_cons wd_85 (gi_cons wd_84 (gi_cons wd_83 (gi_cons wd_81 (gi_nil))))))))))))))))))))))))
set_option maxRecDepth 20000 in
theorem gr_wsX9_meet_r3 : GoodIn lw_tbl wsX9_meet_r3 := gi_cons wd_80 (gi_cons wd_449 (gi_cons wd_448 (gi_cons wd_447 (gi_cons wd_446 (gi_cons wd_369 (gi_cons wd_368 (gi_cons wd_367 (gi_cons wd_366 (gi_cons wd_365 (gi_cons wd_364 (gi_cons wd_363 (gi_cons wd_362 (gi_cons wd_86 (gi_cons wd_361 (gi_cons wd_360 (gi_cons wd_359 (gi_cons wd_23 (gi_cons wd_22 (gi_cons wd_42 (gi_cons wd_358 (gi_cons wd_357 (gi_cons wd_382 (gi_cons wd_381 (gi_nil))))))))))))))))))))))))
set_option maxRecDepth 20000 in
theorem gr_wsX9_meet_r4 : GoodIn lw_tbl wsX9_meet_r4 := gi_cons wd_380 (gi_cons wd_379 (gi_cons wd_378 (gi_cons wd_377 (gi_cons wd_376 (gi_cons wd_375 (gi_cons wd_374 (gi_cons wd_373 (gi_cons wd_372 (gi_cons wd_371 (gi_cons wd_370 (gi_cons wd_389 (gi_cons wd_388 (gi_cons wd_387 (gi_cons wd_386 (gi_cons wd_385 (gi_cons wd_384 (gi_cons wd_383 (gi_cons wd_453 (gi_cons wd_452 (gi_cons wd_451 (gi_cons wd_450 (gi_cons wd_472 (gi_cons wd_471 (gi_nil))))))))))))))))))))))))
set_option maxRecDepth 20000 in
theorem gr_wsX9_meet_r5 : GoodIn lw_tbl wsX9_meet_r5 := gi_cons wd_347 (gi_cons wd_470 (gi_cons wd_469 (gi_cons wd_468 (gi_cons wd_467 (gi_cons wd_466 (gi_cons wd_465 (gi_cons wd_464 (gi_cons wd_463 (gi_cons wd_462 (gi_cons wd_461 (gi_cons wd_460 (gi_cons wd_459 (gi_cons wd_458 (gi_cons wd_457 (gi_cons wd_456 (gi_cons wd_455 (gi_cons wd_433 (gi_cons wd_454 (gi_cons wd_431 (gi_cons wd_430 (gi_cons wd_429 (gi_cons wd_428 (gi_cons wd_341 (gi_nil))))))))))))))))))))))))
set_option maxRecDepth 20000 in
theorem gr_wsX9_meet_r6 : GoodIn lw_tbl wsX9_meet_r6 := gi_cons wd_342 (gi_cons wd_477 (gi_cons wd_476 (gi_cons wd_475 (gi_cons wd_474 (gi_cons wd_473 (gi_cons wd_344 (gi_cons wd_345 (gi_cons wd_697 (gi_cons wd_696 (gi_cons wd_695 (gi_cons wd_694 (gi_cons wd_604 (gi_cons wd_693 (gi_cons wd_616 (gi_cons wd_615 (gi_cons wd_614 (gi_cons wd_15 (gi_cons wd_613 (gi_cons wd_38 (gi_cons wd_612 (gi_cons wd_39 (gi_cons wd_611 (gi_cons wd_610 (gi_nil))))))))))))))))))))))))
set_option maxRecDepth 20000 in
theorem gr_wsX9_meet_r7 : GoodIn lw_tbl wsX9_meet_r7 := gi_cons wd_609 (gi_cons wd_608 (gi_cons wd_607 (gi_cons wd_606 (gi_cons wd_605 (gi_cons wd_642 (gi_cons wd_641 (gi_cons wd_640 (gi_cons wd_639 (gi_cons wd_638 (gi_cons wd_637 (gi_cons wd_636 (gi_cons wd_635 (gi_cons wd_634 (gi_cons wd_633 (gi_cons wd_632 (gi_cons wd_631 (gi_cons wd_619 (gi_cons wd_618 (gi_cons wd_617 (gi_cons wd_630 (gi_cons wd_629 (gi_cons wd_628 (gi_cons wd_627 (gi_nil))))))))))))))))))))))))
theorem wd_749 : GW (.code yX2_acrossStones cX2_acrossStones 8 (some .long)) := ⟨in_wsL_law_r33 _ (List.mem_of_getElem? (i := 5) rfl), good_of_word (by decide +kernel)⟩
theorem wd_750 : GW (.selects RX2 yX2_acrossStones yX2_acrossStones) := ⟨in_wsL_law_r33 _ (List.mem_of_getElem? (i := 4) rfl), good_of_word (by decide +kernel)⟩
theorem wd_751 : GW (.instanceMethod yX2_acrossStones) := ⟨in_wsL_law_r33 _ (List.mem_of_getElem? (i := 3) rfl), good_of_word (by decide +kernel)⟩
theorem wd_752 : GW (.methodLink RX9 266 yX2_acrossStones) := ⟨in_wsL_law_r33 _ (List.mem_of_getElem? (i := 2) rfl), good_of_word (by decide +kernel)⟩
theorem wd_753 : GW (.code Lib.Math.min.name Lib.Math.min.code 2 (some .int)) := ⟨in_wsL_law_r33 _ (List.mem_of_getElem? (i := 1) rfl), good_of_word (by decide +kernel)⟩
theorem wd_754 : GW (.static Lib.Math.min.name) := ⟨in_wsL_law_r33 _ (List.mem_of_getElem? (i := 0) rfl), good_of_word (by decide +kernel)⟩
theorem wd_755 : GW (.methodLink RX2 82 Lib.Math.min.name) := ⟨in_wsL_law_r32 _ (List.mem_of_getElem? (i := 23) rfl), good_of_word (by decide +kernel)⟩
theorem wd_756 : GW (.code Lib.Math.max.name Lib.Math.max.code 2 (some .int)) := ⟨in_wsL_law_r32 _ (List.mem_of_getElem? (i := 22) rfl), good_of_word (by decide +kernel)⟩
theorem wd_757 : GW (.static Lib.Math.max.name) := ⟨in_wsL_law_r32 _ (List.mem_of_getElem? (i := 21) rfl), good_of_word (by decide +kernel)⟩
theorem wd_758 : GW (.methodLink RX2 79 Lib.Math.max.name) := ⟨in_wsL_law_r32 _ (List.mem_of_getElem? (i := 20) rfl), good_of_word (by decide +kernel)⟩
theorem wd_759 : GW (.code yX2_mix cX2_mix 3 none) := ⟨in_wsL_law_r32 _ (List.mem_of_getElem? (i := 19) rfl), good_of_word (by decide +kernel)⟩
theorem wd_760 : GW (.selects RX2 yX2_mix yX2_mix) := ⟨in_wsL_law_r32 _ (List.mem_of_getElem? (i := 18) rfl), good_of_word (by decide +kernel)⟩
theorem wd_761 : GW (.instanceMethod yX2_mix) := ⟨in_wsL_law_r32 _ (List.mem_of_getElem? (i := 17) rfl), good_of_word (by decide +kernel)⟩
theorem wd_762 : GW (.methodLink RX9 263 yX2_mix) := ⟨in_wsL_law_r32 _ (List.mem_of_getElem? (i := 16) rfl), good_of_word (by decide +kernel)⟩
set_option maxRecDepth 20000 in
theorem gr_wsX9_meet_r8 : GoodIn lw_tbl wsX9_meet_r8 := gi_cons wd_626 (gi_cons wd_625 (gi_cons wd_624 (gi_cons wd_762 (gi_cons wd_761 (gi_cons wd_760 (gi_cons wd_759 (gi_cons wd_41 (gi_cons wd_40 (gi_cons wd_758 (gi_cons wd_757 (gi_cons wd_699 (gi_cons wd_756 (gi_cons wd_755 (gi_cons wd_754 (gi_cons wd_753 (gi_cons wd_752 (gi_cons wd_751 (gi_cons wd_750 (gi_cons wd_749 (gi_cons wd_701 (gi_cons wd_700 (gi_cons wd_698 (gi_cons wd_589 (gi_nil))))))))))))))))))))))))
set_option maxRecDepth 20000 in
theorem gr_wsX9_meet_r9 : GoodIn lw_tbl wsX9_meet_r9 := gi_cons wd_588 (gi_cons wd_587 (gi_cons wd_586 (gi_nil)))
set_option maxRecDepth 20000 in
theorem gr_wsX9_meet : GoodIn lw_tbl wsX9_meet := gi_cons wd_748 (goodIn_app (goodIn_app (goodIn_app (goodIn_app (goodIn_app (goodIn_app (gr_wsX9_meet_r1) (goodIn_app (gr_wsX9_meet_r2) (goodIn_app (gr_wsX9_meet_r3) (goodIn_app (gr_wsX9_meet_r4) (goodIn_app (gr_wsX9_meet_r5) (goodIn_app (gr_wsX9_meet_r6) (goodIn_app (gr_wsX9_meet_r7) (goodIn_app (gr_wsX9_meet_r8) (gr_wsX9_meet_r9))))))))) (gu_X9)) (gu_X7)) (gu_X4)) (gu_X3)) (gu_X2))
theorem wd_763 : GW (.methodLink RL 100 yX9_meet) := ⟨in_wsL_law_r32 _ (List.mem_of_getElem? (i := 12) rfl), good_of_word (by decide +kernel)⟩
theorem wd_764 : GW (.instanceMethod yX9_meet) := ⟨in_wsL_law_r32 _ (List.mem_of_getElem? (i := 13) rfl), good_of_word (by decide +kernel)⟩
theorem wd_765 : GW (.selects RX9 yX9_meet yX9_meet) := ⟨in_wsL_law_r32 _ (List.mem_of_getElem? (i := 14) rfl), good_of_word (by decide +kernel)⟩
theorem gq_X9_meet : GoodIn lw_tbl (wsV RL 100 RX9 yX9_meet wsX9_meet) := goodIn_app (gi_cons wd_763 (gi_cons wd_764 (gi_cons wd_765 (gi_cons wd_82 gi_nil)))) gr_wsX9_meet
theorem wd_766 : GW (.code yX10_meet cX10_meet 13 (some .int)) := ⟨in_wsL_law_r33 _ (List.mem_of_getElem? (i := 9) rfl), good_of_word (by decide +kernel)⟩
theorem wd_767 : GW (.methodLink RX10 283 Lib.Math.min.name) := ⟨in_wsL_law_r33 _ (List.mem_of_getElem? (i := 11) rfl), good_of_word (by decide +kernel)⟩
theorem wd_768 : GW (.methodLink RX10 280 Lib.Math.max.name) := ⟨in_wsL_law_r33 _ (List.mem_of_getElem? (i := 10) rfl), good_of_word (by decide +kernel)⟩
set_option maxRecDepth 20000 in
theorem gr_wsX10_meet_r1 : GoodIn lw_tbl wsX10_meet_r1 := gi_cons wd_49 (gi_cons wd_48 (gi_cons wd_768 (gi_cons wd_757 (gi_cons wd_699 (gi_cons wd_756 (gi_cons wd_767 (gi_cons wd_754 (gi_cons wd_753 (gi_cons wd_145 (gi_cons wd_714 (gi_cons wd_700 (gi_cons wd_698 (gi_cons wd_713 (gi_cons wd_712 (gi_cons wd_711 (gi_cons wd_140 (gi_cons wd_710 (gi_cons wd_127 (gi_cons wd_146 (gi_cons wd_484 (gi_cons wd_483 (gi_cons wd_256 (gi_cons wd_255 (gi_nil))))))))))))))))))))))))
set_option maxRecDepth 20000 in
theorem gr_wsX10_meet_r2 : GoodIn lw_tbl wsX10_meet_r2 := gi_cons wd_254 (gi_cons wd_253 (gi_cons wd_252 (gi_cons wd_251 (gi_cons wd_250 (gi_cons wd_249 (gi_cons wd_129 (gi_cons wd_248 (gi_cons wd_247 (gi_cons wd_246 (gi_cons wd_245 (gi_cons wd_161 (gi_cons wd_160 (gi_cons wd_159 (gi_cons wd_158 (gi_cons wd_63 (gi_cons wd_241 (gi_cons wd_240 (gi_cons wd_239 (gi_cons wd_238 (gi_cons wd_51 (gi_cons wd_263 (gi_cons wd_262 (gi_cons wd_261 (gi_nil))))))))))))))))))))))))
set_option maxRecDepth 20000 in
theorem gr_wsX10_meet_r3 : GoodIn lw_tbl wsX10_meet_r3 := gi_cons wd_151 (gi_cons wd_150 (gi_cons wd_149 (gi_cons wd_142 (gi_cons wd_141 (gi_cons wd_139 (gi_cons wd_148 (gi_cons wd_147 (gi_cons wd_181 (gi_cons wd_260 (gi_cons wd_259 (gi_cons wd_258 (gi_cons wd_257 (gi_cons wd_404 (gi_cons wd_403 (gi_cons wd_402 (gi_cons wd_401 (gi_cons wd_400 (gi_cons wd_399 (gi_cons wd_398 (gi_cons wd_397 (gi_cons wd_396 (gi_cons wd_395 (gi_cons wd_394 (gi_nil))))))))))))))))))))))))
set_option maxRecDepth 20000 in
theorem gr_wsX10_meet_r4 : GoodIn lw_tbl wsX10_meet_r4 := gi_cons wd_126 (gi_cons wd_125 (gi_cons wd_124 (gi_cons wd_123 (gi_cons wd_169 (gi_cons wd_168 (gi_cons wd_167 (gi_cons wd_166 (gi_cons wd_413 (gi_cons wd_412 (gi_cons wd_411 (gi_cons wd_410 (gi_cons wd_165 (gi_cons wd_164 (gi_cons wd_163 (gi_cons wd_162 (gi_cons wd_409 (gi_cons wd_408 (gi_cons wd_407 (gi_cons wd_406 (gi_cons wd_50 (gi_cons wd_405 (gi_cons wd_420 (gi_cons wd_419 (gi_nil))))))))))))))))))))))))
set_option maxRecDepth 20000 in
theorem gr_wsX10_meet_r5 : GoodIn lw_tbl wsX10_meet_r5 := gi_cons wd_418 (gi_cons wd_143 (gi_cons wd_417 (gi_cons wd_416 (gi_cons wd_415 (gi_cons wd_414 (gi_cons wd_482 (gi_cons wd_491 (gi_cons wd_490 (gi_cons wd_489 (gi_cons wd_659 (gi_cons wd_658 (gi_cons wd_657 (gi_cons wd_656 (gi_cons wd_655 (gi_cons wd_663 (gi_cons wd_662 (gi_cons wd_661 (gi_cons wd_660 (gi_cons wd_654 (gi_cons wd_653 (gi_cons wd_652 (gi_cons wd_651 (gi_cons wd_244 (gi_nil))))))))))))))))))))))))
set_option maxRecDepth 20000 in
theorem gr_wsX10_meet_r6 : GoodIn lw_tbl wsX10_meet_r6 := gi_cons wd_243 (gi_cons wd_242 (gi_cons wd_650 (gi_cons wd_649 (gi_cons wd_648 (gi_cons wd_647 (gi_cons wd_666 (gi_cons wd_665 (gi_cons wd_664 (gi_cons wd_138 (gi_cons wd_137 (gi_cons wd_136 (gi_cons wd_135 (gi_cons wd_134 (gi_cons wd_508 (gi_cons wd_507 (gi_cons wd_506 (gi_cons wd_505 (gi_nil))))))))))))))))))
set_option maxRecDepth 20000 in
theorem gr_wsX10_meet : GoodIn lw_tbl wsX10_meet := gi_cons wd_766 (goodIn_app (goodIn_app (gr_wsX10_meet_r1) (goodIn_app (gr_wsX10_meet_r2) (goodIn_app (gr_wsX10_meet_r3) (goodIn_app (gr_wsX10_meet_r4) (goodIn_app (gr_wsX10_meet_r5) (gr_wsX10_meet_r6)))))) (gu_X10))
theorem wd_769 : GW (.methodLink RL 104 yX10_meet) := ⟨in_wsL_law_r33 _ (List.mem_of_getElem? (i := 6) rfl), good_of_word (by decide +kernel)⟩
theorem wd_770 : GW (.instanceMethod yX10_meet) := ⟨in_wsL_law_r33 _ (List.mem_of_getElem? (i := 7) rfl), good_of_word (by decide +kernel)⟩
theorem wd_771 : GW (.selects RX10 yX10_meet yX10_meet) := ⟨in_wsL_law_r33 _ (List.mem_of_getElem? (i := 8) rfl), good_of_word (by decide +kernel)⟩
theorem gq_X10_meet : GoodIn lw_tbl (wsV RL 104 RX10 yX10_meet wsX10_meet) := goodIn_app (gi_cons wd_769 (gi_cons wd_770 (gi_cons wd_771 (gi_cons wd_140 gi_nil)))) gr_wsX10_meet
theorem wd_772 : GW (.code yX9_lack cX9_lack 1 (some .int)) := ⟨in_wsL_law_r33 _ (List.mem_of_getElem? (i := 15) rfl), good_of_word (by decide +kernel)⟩
theorem wd_773 : GW (.methodLink RX0 55 Lib.Math.min.name) := ⟨in_wsL_law_r34 _ (List.mem_of_getElem? (i := 6) rfl), good_of_word (by decide +kernel)⟩
theorem wd_774 : GW (.constantLong RX0 53 (-1)) := ⟨in_wsL_law_r34 _ (List.mem_of_getElem? (i := 5) rfl), good_of_word (by decide +kernel)⟩
theorem wd_775 : GW (.fieldLink RX0 45 "ParquetLayer$Covering" "queued" "I") := ⟨in_wsL_law_r34 _ (List.mem_of_getElem? (i := 4) rfl), good_of_word (by decide +kernel)⟩
theorem wd_776 : GW (.fieldLink RX0 41 "ParquetLayer$Covering" "seen" "J") := ⟨in_wsL_law_r34 _ (List.mem_of_getElem? (i := 3) rfl), good_of_word (by decide +kernel)⟩
theorem wd_777 : GW (.constantLong RX0 35 (-6172840429334713771)) := ⟨in_wsL_law_r34 _ (List.mem_of_getElem? (i := 2) rfl), good_of_word (by decide +kernel)⟩
theorem wd_778 : GW (.code yX0_search cX0_search 9 (some .int)) := ⟨in_wsL_law_r34 _ (List.mem_of_getElem? (i := 1) rfl), good_of_word (by decide +kernel)⟩
theorem wd_779 : GW (.selects RX0 yX0_search yX0_search) := ⟨in_wsL_law_r34 _ (List.mem_of_getElem? (i := 0) rfl), good_of_word (by decide +kernel)⟩
theorem wd_780 : GW (.instanceMethod yX0_search) := ⟨in_wsL_law_r33 _ (List.mem_of_getElem? (i := 23) rfl), good_of_word (by decide +kernel)⟩
theorem wd_781 : GW (.methodLink RX0 25 yX0_search) := ⟨in_wsL_law_r33 _ (List.mem_of_getElem? (i := 22) rfl), good_of_word (by decide +kernel)⟩
theorem wd_782 : GW (.methodLink RX0 19 yJ7_fill_53178) := ⟨in_wsL_law_r33 _ (List.mem_of_getElem? (i := 21) rfl), good_of_word (by decide +kernel)⟩
theorem wd_783 : GW (.code yX0_cover cX0_cover 5 none) := ⟨in_wsL_law_r33 _ (List.mem_of_getElem? (i := 20) rfl), good_of_word (by decide +kernel)⟩
theorem wd_784 : GW (.selects RX0 yX0_cover yX0_cover) := ⟨in_wsL_law_r33 _ (List.mem_of_getElem? (i := 19) rfl), good_of_word (by decide +kernel)⟩
theorem wd_785 : GW (.instanceMethod yX0_cover) := ⟨in_wsL_law_r33 _ (List.mem_of_getElem? (i := 18) rfl), good_of_word (by decide +kernel)⟩
theorem wd_786 : GW (.methodLink RX9 270 yX0_cover) := ⟨in_wsL_law_r33 _ (List.mem_of_getElem? (i := 17) rfl), good_of_word (by decide +kernel)⟩
theorem wd_787 : GW (.fieldLink RX9 273 "ParquetLayer$Covering" "left" "J") := ⟨in_wsL_law_r33 _ (List.mem_of_getElem? (i := 16) rfl), good_of_word (by decide +kernel)⟩
set_option maxRecDepth 20000 in
theorem gr_wsX9_lack_r1 : GoodIn lw_tbl wsX9_lack_r1 := gi_cons wd_6 (gi_cons wd_88 (gi_cons wd_787 (gi_cons wd_786 (gi_cons wd_785 (gi_cons wd_784 (gi_cons wd_7 (gi_cons wd_783 (gi_cons wd_31 (gi_cons wd_782 (gi_cons wd_610 (gi_cons wd_609 (gi_cons wd_608 (gi_cons wd_781 (gi_cons wd_780 (gi_cons wd_779 (gi_cons wd_778 (gi_cons wd_777 (gi_cons wd_776 (gi_cons wd_29 (gi_cons wd_775 (gi_cons wd_774 (gi_cons wd_773 (gi_cons wd_754 (gi_nil))))))))))))))))))))))))
theorem wd_788 : GW (.methodLink RX0 49 yX1_beside) := ⟨in_wsL_law_r34 _ (List.mem_of_getElem? (i := 19) rfl), good_of_word (by decide +kernel)⟩
theorem wd_789 : GW (.code yX0_enqueue cX0_enqueue 2 none) := ⟨in_wsL_law_r34 _ (List.mem_of_getElem? (i := 18) rfl), good_of_word (by decide +kernel)⟩
theorem wd_790 : GW (.selects RX0 yX0_enqueue yX0_enqueue) := ⟨in_wsL_law_r34 _ (List.mem_of_getElem? (i := 17) rfl), good_of_word (by decide +kernel)⟩
theorem wd_791 : GW (.instanceMethod yX0_enqueue) := ⟨in_wsL_law_r34 _ (List.mem_of_getElem? (i := 16) rfl), good_of_word (by decide +kernel)⟩
theorem wd_792 : GW (.methodLink RX0 68 yX0_enqueue) := ⟨in_wsL_law_r34 _ (List.mem_of_getElem? (i := 15) rfl), good_of_word (by decide +kernel)⟩
theorem wd_793 : GW (.methodLink RX0 64 yX1_holds) := ⟨in_wsL_law_r34 _ (List.mem_of_getElem? (i := 14) rfl), good_of_word (by decide +kernel)⟩
theorem wd_794 : GW (.fieldLink RX0 74 "ParquetLayer$Covering" "left" "J") := ⟨in_wsL_law_r34 _ (List.mem_of_getElem? (i := 13) rfl), good_of_word (by decide +kernel)⟩
theorem wd_795 : GW (.fieldLink RX0 71 "ParquetLayer$Covering" "reached" "J") := ⟨in_wsL_law_r34 _ (List.mem_of_getElem? (i := 12) rfl), good_of_word (by decide +kernel)⟩
theorem wd_796 : GW (.code yX0_queueLeft cX0_queueLeft 4 none) := ⟨in_wsL_law_r34 _ (List.mem_of_getElem? (i := 11) rfl), good_of_word (by decide +kernel)⟩
theorem wd_797 : GW (.selects RX0 yX0_queueLeft yX0_queueLeft) := ⟨in_wsL_law_r34 _ (List.mem_of_getElem? (i := 10) rfl), good_of_word (by decide +kernel)⟩
theorem wd_798 : GW (.instanceMethod yX0_queueLeft) := ⟨in_wsL_law_r34 _ (List.mem_of_getElem? (i := 9) rfl), good_of_word (by decide +kernel)⟩
theorem wd_799 : GW (.methodLink RX0 37 yX0_queueLeft) := ⟨in_wsL_law_r34 _ (List.mem_of_getElem? (i := 8) rfl), good_of_word (by decide +kernel)⟩
theorem wd_800 : GW (.methodLink RX0 61 Lib.Math.max.name) := ⟨in_wsL_law_r34 _ (List.mem_of_getElem? (i := 7) rfl), good_of_word (by decide +kernel)⟩
set_option maxRecDepth 20000 in
theorem gr_wsX9_lack_r2 : GoodIn lw_tbl wsX9_lack_r2 := gi_cons wd_699 (gi_cons wd_753 (gi_cons wd_800 (gi_cons wd_757 (gi_cons wd_756 (gi_cons wd_30 (gi_cons wd_799 (gi_cons wd_798 (gi_cons wd_797 (gi_cons wd_796 (gi_cons wd_795 (gi_cons wd_794 (gi_cons wd_793 (gi_cons wd_190 (gi_cons wd_66 (gi_cons wd_189 (gi_cons wd_792 (gi_cons wd_791 (gi_cons wd_790 (gi_cons wd_789 (gi_cons wd_788 (gi_cons wd_105 (gi_cons wd_104 (gi_cons wd_103 (gi_nil))))))))))))))))))))))))
theorem wd_801 : GW (.code yX0_shift cX0_shift 6 none) := ⟨in_wsL_law_r34 _ (List.mem_of_getElem? (i := 23) rfl), good_of_word (by decide +kernel)⟩
theorem wd_802 : GW (.selects RX0 yX0_shift yX0_shift) := ⟨in_wsL_law_r34 _ (List.mem_of_getElem? (i := 22) rfl), good_of_word (by decide +kernel)⟩
theorem wd_803 : GW (.instanceMethod yX0_shift) := ⟨in_wsL_law_r34 _ (List.mem_of_getElem? (i := 21) rfl), good_of_word (by decide +kernel)⟩
theorem wd_804 : GW (.methodLink RX0 29 yX0_shift) := ⟨in_wsL_law_r34 _ (List.mem_of_getElem? (i := 20) rfl), good_of_word (by decide +kernel)⟩
set_option maxRecDepth 20000 in
theorem gr_wsX9_lack_r3 : GoodIn lw_tbl wsX9_lack_r3 := gi_cons wd_102 (gi_cons wd_804 (gi_cons wd_803 (gi_cons wd_802 (gi_cons wd_801 (gi_cons wd_116 (gi_cons wd_115 (gi_cons wd_114 (gi_cons wd_113 (gi_cons wd_112 (gi_cons wd_111 (gi_cons wd_110 (gi_nil))))))))))))
set_option maxRecDepth 20000 in
theorem gr_wsX9_lack : GoodIn lw_tbl wsX9_lack := gi_cons wd_772 (goodIn_app (goodIn_app (goodIn_app (gr_wsX9_lack_r1) (goodIn_app (gr_wsX9_lack_r2) (gr_wsX9_lack_r3))) (gu_X9)) (gu_X0))
theorem wd_805 : GW (.methodLink RL 105 yX9_lack) := ⟨in_wsL_law_r33 _ (List.mem_of_getElem? (i := 12) rfl), good_of_word (by decide +kernel)⟩
theorem wd_806 : GW (.instanceMethod yX9_lack) := ⟨in_wsL_law_r33 _ (List.mem_of_getElem? (i := 13) rfl), good_of_word (by decide +kernel)⟩
theorem wd_807 : GW (.selects RX9 yX9_lack yX9_lack) := ⟨in_wsL_law_r33 _ (List.mem_of_getElem? (i := 14) rfl), good_of_word (by decide +kernel)⟩
theorem gq_X9_lack : GoodIn lw_tbl (wsV RL 105 RX9 yX9_lack wsX9_lack) := goodIn_app (gi_cons wd_805 (gi_cons wd_806 (gi_cons wd_807 (gi_cons wd_82 gi_nil)))) gr_wsX9_lack
theorem wd_808 : GW (.code yX10_lack cX10_lack 1 (some .int)) := ⟨in_wsL_law_r35 _ (List.mem_of_getElem? (i := 3) rfl), good_of_word (by decide +kernel)⟩
theorem wd_809 : GW (.methodLink RX10 289 yX10_beside) := ⟨in_wsL_law_r35 _ (List.mem_of_getElem? (i := 16) rfl), good_of_word (by decide +kernel)⟩
theorem wd_810 : GW (.code yX10_spreadFrom cX10_spreadFrom 6 (some .int)) := ⟨in_wsL_law_r35 _ (List.mem_of_getElem? (i := 15) rfl), good_of_word (by decide +kernel)⟩
theorem wd_811 : GW (.selects RX10 yX10_spreadFrom yX10_spreadFrom) := ⟨in_wsL_law_r35 _ (List.mem_of_getElem? (i := 14) rfl), good_of_word (by decide +kernel)⟩
theorem wd_812 : GW (.instanceMethod yX10_spreadFrom) := ⟨in_wsL_law_r35 _ (List.mem_of_getElem? (i := 13) rfl), good_of_word (by decide +kernel)⟩
theorem wd_813 : GW (.methodLink RX10 292 yX10_spreadFrom) := ⟨in_wsL_law_r35 _ (List.mem_of_getElem? (i := 12) rfl), good_of_word (by decide +kernel)⟩
theorem wd_814 : GW (.code yX10_isDarkField cX10_isDarkField 2 (some .boolean)) := ⟨in_wsL_law_r35 _ (List.mem_of_getElem? (i := 11) rfl), good_of_word (by decide +kernel)⟩
theorem wd_815 : GW (.selects RX10 yX10_isDarkField yX10_isDarkField) := ⟨in_wsL_law_r35 _ (List.mem_of_getElem? (i := 10) rfl), good_of_word (by decide +kernel)⟩
theorem wd_816 : GW (.instanceMethod yX10_isDarkField) := ⟨in_wsL_law_r35 _ (List.mem_of_getElem? (i := 9) rfl), good_of_word (by decide +kernel)⟩
theorem wd_817 : GW (.methodLink RX10 286 yX10_isDarkField) := ⟨in_wsL_law_r35 _ (List.mem_of_getElem? (i := 8) rfl), good_of_word (by decide +kernel)⟩
theorem wd_818 : GW (.code yX10_match cX10_match 6 (some .int)) := ⟨in_wsL_law_r35 _ (List.mem_of_getElem? (i := 7) rfl), good_of_word (by decide +kernel)⟩
theorem wd_819 : GW (.selects RX10 yX10_match yX10_match) := ⟨in_wsL_law_r35 _ (List.mem_of_getElem? (i := 6) rfl), good_of_word (by decide +kernel)⟩
theorem wd_820 : GW (.instanceMethod yX10_match) := ⟨in_wsL_law_r35 _ (List.mem_of_getElem? (i := 5) rfl), good_of_word (by decide +kernel)⟩
theorem wd_821 : GW (.methodLink RX10 295 yX10_match) := ⟨in_wsL_law_r35 _ (List.mem_of_getElem? (i := 4) rfl), good_of_word (by decide +kernel)⟩
set_option maxRecDepth 20000 in
theorem gr_wsX10_lack_r1 : GoodIn lw_tbl wsX10_lack_r1 := gi_cons wd_821 (gi_cons wd_820 (gi_cons wd_819 (gi_cons wd_140 (gi_cons wd_818 (gi_cons wd_47 (gi_cons wd_45 (gi_cons wd_817 (gi_cons wd_816 (gi_cons wd_815 (gi_cons wd_814 (gi_cons wd_145 (gi_cons wd_148 (gi_cons wd_147 (gi_cons wd_181 (gi_cons wd_244 (gi_cons wd_243 (gi_cons wd_242 (gi_cons wd_813 (gi_cons wd_812 (gi_cons wd_811 (gi_cons wd_810 (gi_cons wd_46 (gi_cons wd_809 (gi_nil))))))))))))))))))))))))
theorem wd_822 : GW (.code yX10_beside cX10_beside 4 (some .int)) := ⟨in_wsL_law_r35 _ (List.mem_of_getElem? (i := 18) rfl), good_of_word (by decide +kernel)⟩
theorem wd_823 : GW (.static yX10_beside) := ⟨in_wsL_law_r35 _ (List.mem_of_getElem? (i := 17) rfl), good_of_word (by decide +kernel)⟩
set_option maxRecDepth 20000 in
theorem gr_wsX10_lack_r2 : GoodIn lw_tbl wsX10_lack_r2 := gi_cons wd_823 (gi_cons wd_822 (gi_cons wd_142 (gi_cons wd_141 (gi_cons wd_139 (gi_nil)))))
set_option maxRecDepth 20000 in
theorem gr_wsX10_lack : GoodIn lw_tbl wsX10_lack := gi_cons wd_808 (goodIn_app (goodIn_app (gr_wsX10_lack_r1) (gr_wsX10_lack_r2)) (gu_X10))
theorem wd_824 : GW (.methodLink RL 108 yX10_lack) := ⟨in_wsL_law_r35 _ (List.mem_of_getElem? (i := 0) rfl), good_of_word (by decide +kernel)⟩
theorem wd_825 : GW (.instanceMethod yX10_lack) := ⟨in_wsL_law_r35 _ (List.mem_of_getElem? (i := 1) rfl), good_of_word (by decide +kernel)⟩
theorem wd_826 : GW (.selects RX10 yX10_lack yX10_lack) := ⟨in_wsL_law_r35 _ (List.mem_of_getElem? (i := 2) rfl), good_of_word (by decide +kernel)⟩
theorem gq_X10_lack : GoodIn lw_tbl (wsV RL 108 RX10 yX10_lack wsX10_lack) := goodIn_app (gi_cons wd_824 (gi_cons wd_825 (gi_cons wd_826 (gi_cons wd_140 gi_nil)))) gr_wsX10_lack
theorem wd_827 : GW (.code yX9_lacking cX9_lacking 2 (some .int)) := ⟨in_wsL_law_r35 _ (List.mem_of_getElem? (i := 22) rfl), good_of_word (by decide +kernel)⟩
theorem wd_828 : GW (.fieldLink RX9 276 "ParquetLayer$Covering" "reached" "J") := ⟨in_wsL_law_r35 _ (List.mem_of_getElem? (i := 23) rfl), good_of_word (by decide +kernel)⟩
set_option maxRecDepth 20000 in
theorem gr_wsX9_lacking_r1 : GoodIn lw_tbl wsX9_lacking_r1 := gi_cons wd_89 (gi_cons wd_6 (gi_cons wd_88 (gi_cons wd_828 (gi_cons wd_194 (gi_cons wd_193 (gi_cons wd_66 (gi_cons wd_192 (gi_cons wd_85 (gi_cons wd_84 (gi_cons wd_83 (gi_cons wd_82 (gi_cons wd_81 (gi_cons wd_80 (gi_cons wd_786 (gi_cons wd_785 (gi_cons wd_784 (gi_cons wd_7 (gi_cons wd_783 (gi_cons wd_31 (gi_cons wd_782 (gi_cons wd_610 (gi_cons wd_609 (gi_cons wd_608 (gi_nil))))))))))))))))))))))))
set_option maxRecDepth 20000 in
theorem gr_wsX9_lacking_r2 : GoodIn lw_tbl wsX9_lacking_r2 := gi_cons wd_781 (gi_cons wd_780 (gi_cons wd_779 (gi_cons wd_778 (gi_cons wd_777 (gi_cons wd_776 (gi_cons wd_29 (gi_cons wd_775 (gi_cons wd_774 (gi_cons wd_773 (gi_cons wd_754 (gi_cons wd_699 (gi_cons wd_753 (gi_cons wd_800 (gi_cons wd_757 (gi_cons wd_756 (gi_cons wd_30 (gi_cons wd_799 (gi_cons wd_798 (gi_cons wd_797 (gi_cons wd_796 (gi_cons wd_795 (gi_cons wd_794 (gi_cons wd_793 (gi_nil))))))))))))))))))))))))
set_option maxRecDepth 20000 in
theorem gr_wsX9_lacking_r3 : GoodIn lw_tbl wsX9_lacking_r3 := gi_cons wd_190 (gi_cons wd_189 (gi_cons wd_792 (gi_cons wd_791 (gi_cons wd_790 (gi_cons wd_789 (gi_cons wd_788 (gi_cons wd_105 (gi_cons wd_104 (gi_cons wd_103 (gi_cons wd_102 (gi_cons wd_804 (gi_cons wd_803 (gi_cons wd_802 (gi_cons wd_801 (gi_cons wd_191 (gi_cons wd_188 (gi_cons wd_187 (gi_cons wd_186 (gi_nil)))))))))))))))))))
set_option maxRecDepth 20000 in
theorem gr_wsX9_lacking : GoodIn lw_tbl wsX9_lacking := gi_cons wd_827 (goodIn_app (goodIn_app (goodIn_app (gr_wsX9_lacking_r1) (goodIn_app (gr_wsX9_lacking_r2) (gr_wsX9_lacking_r3))) (gu_X9)) (gu_X0))
theorem wd_829 : GW (.methodLink RL 109 yX9_lacking) := ⟨in_wsL_law_r35 _ (List.mem_of_getElem? (i := 19) rfl), good_of_word (by decide +kernel)⟩
theorem wd_830 : GW (.instanceMethod yX9_lacking) := ⟨in_wsL_law_r35 _ (List.mem_of_getElem? (i := 20) rfl), good_of_word (by decide +kernel)⟩
theorem wd_831 : GW (.selects RX9 yX9_lacking yX9_lacking) := ⟨in_wsL_law_r35 _ (List.mem_of_getElem? (i := 21) rfl), good_of_word (by decide +kernel)⟩
theorem gq_X9_lacking : GoodIn lw_tbl (wsV RL 109 RX9 yX9_lacking wsX9_lacking) := goodIn_app (gi_cons wd_829 (gi_cons wd_830 (gi_cons wd_831 (gi_cons wd_82 gi_nil)))) gr_wsX9_lacking
theorem wd_832 : GW (.code yX10_lacking cX10_lacking 4 (some .int)) := ⟨in_wsL_law_r36 _ (List.mem_of_getElem? (i := 3) rfl), good_of_word (by decide +kernel)⟩
set_option maxRecDepth 20000 in
theorem gr_wsX10_lacking_r1 : GoodIn lw_tbl wsX10_lacking_r1 := gi_cons wd_146 (gi_cons wd_46 (gi_cons wd_201 (gi_cons wd_200 (gi_cons wd_140 (gi_cons wd_199 (gi_cons wd_142 (gi_cons wd_141 (gi_cons wd_139 (gi_cons wd_138 (gi_cons wd_137 (gi_cons wd_136 (gi_cons wd_135 (gi_cons wd_134 (gi_cons wd_821 (gi_cons wd_820 (gi_cons wd_819 (gi_cons wd_818 (gi_cons wd_47 (gi_cons wd_45 (gi_cons wd_817 (gi_cons wd_816 (gi_cons wd_815 (gi_cons wd_814 (gi_nil))))))))))))))))))))))))
set_option maxRecDepth 20000 in
theorem gr_wsX10_lacking_r2 : GoodIn lw_tbl wsX10_lacking_r2 := gi_cons wd_145 (gi_cons wd_148 (gi_cons wd_147 (gi_cons wd_181 (gi_cons wd_244 (gi_cons wd_243 (gi_cons wd_242 (gi_cons wd_813 (gi_cons wd_812 (gi_cons wd_811 (gi_cons wd_810 (gi_cons wd_809 (gi_cons wd_823 (gi_cons wd_822 (gi_nil))))))))))))))
set_option maxRecDepth 20000 in
theorem gr_wsX10_lacking : GoodIn lw_tbl wsX10_lacking := gi_cons wd_832 (goodIn_app (goodIn_app (gr_wsX10_lacking_r1) (gr_wsX10_lacking_r2)) (gu_X10))
theorem wd_833 : GW (.methodLink RL 112 yX10_lacking) := ⟨in_wsL_law_r36 _ (List.mem_of_getElem? (i := 0) rfl), good_of_word (by decide +kernel)⟩
theorem wd_834 : GW (.instanceMethod yX10_lacking) := ⟨in_wsL_law_r36 _ (List.mem_of_getElem? (i := 1) rfl), good_of_word (by decide +kernel)⟩
theorem wd_835 : GW (.selects RX10 yX10_lacking yX10_lacking) := ⟨in_wsL_law_r36 _ (List.mem_of_getElem? (i := 2) rfl), good_of_word (by decide +kernel)⟩
theorem gq_X10_lacking : GoodIn lw_tbl (wsV RL 112 RX10 yX10_lacking wsX10_lacking) := goodIn_app (gi_cons wd_833 (gi_cons wd_834 (gi_cons wd_835 (gi_cons wd_140 gi_nil)))) gr_wsX10_lacking
theorem wd_836 : GW (.code yX9_sheet cX9_sheet 4 (some .int)) := ⟨in_wsL_law_r36 _ (List.mem_of_getElem? (i := 7) rfl), good_of_word (by decide +kernel)⟩
theorem wd_837 : GW (.methodLink RX6 20 yJ7_fill_53178) := ⟨in_wsL_law_r36 _ (List.mem_of_getElem? (i := 19) rfl), good_of_word (by decide +kernel)⟩
theorem wd_838 : GW (.fieldLink RX6 17 "ParquetLayer$Sheet" "size" "I") := ⟨in_wsL_law_r36 _ (List.mem_of_getElem? (i := 18) rfl), good_of_word (by decide +kernel)⟩
theorem wd_839 : GW (.fieldLink RX6 13 "ParquetLayer$Sheet" "bits" "I") := ⟨in_wsL_law_r36 _ (List.mem_of_getElem? (i := 17) rfl), good_of_word (by decide +kernel)⟩
theorem wd_840 : GW (.code yX6_begin cX6_begin 3 none) := ⟨in_wsL_law_r36 _ (List.mem_of_getElem? (i := 16) rfl), good_of_word (by decide +kernel)⟩
theorem wd_841 : GW (.selects RX6 yX6_begin yX6_begin) := ⟨in_wsL_law_r36 _ (List.mem_of_getElem? (i := 15) rfl), good_of_word (by decide +kernel)⟩
theorem wd_842 : GW (.instanceMethod yX6_begin) := ⟨in_wsL_law_r36 _ (List.mem_of_getElem? (i := 14) rfl), good_of_word (by decide +kernel)⟩
theorem wd_843 : GW (.methodLink RX9 282 yX6_begin) := ⟨in_wsL_law_r36 _ (List.mem_of_getElem? (i := 13) rfl), good_of_word (by decide +kernel)⟩
theorem wd_844 : GW (.code yX9_isSheet cX9_isSheet 2 (some .boolean)) := ⟨in_wsL_law_r36 _ (List.mem_of_getElem? (i := 12) rfl), good_of_word (by decide +kernel)⟩
theorem wd_845 : GW (.selects RX9 yX9_isSheet yX9_isSheet) := ⟨in_wsL_law_r36 _ (List.mem_of_getElem? (i := 11) rfl), good_of_word (by decide +kernel)⟩
theorem wd_846 : GW (.instanceMethod yX9_isSheet) := ⟨in_wsL_law_r36 _ (List.mem_of_getElem? (i := 10) rfl), good_of_word (by decide +kernel)⟩
theorem wd_847 : GW (.methodLink RX9 279 yX9_isSheet) := ⟨in_wsL_law_r36 _ (List.mem_of_getElem? (i := 9) rfl), good_of_word (by decide +kernel)⟩
theorem wd_848 : GW (.fieldLink RX9 286 "ParquetLayer$Sheet" "size" "I") := ⟨in_wsL_law_r36 _ (List.mem_of_getElem? (i := 8) rfl), good_of_word (by decide +kernel)⟩
set_option maxRecDepth 20000 in
theorem gr_wsX9_sheet_r1 : GoodIn lw_tbl wsX9_sheet_r1 := gi_cons wd_89 (gi_cons wd_277 (gi_cons wd_20 (gi_cons wd_848 (gi_cons wd_847 (gi_cons wd_846 (gi_cons wd_845 (gi_cons wd_82 (gi_cons wd_844 (gi_cons wd_85 (gi_cons wd_84 (gi_cons wd_83 (gi_cons wd_81 (gi_cons wd_80 (gi_cons wd_843 (gi_cons wd_842 (gi_cons wd_841 (gi_cons wd_4 (gi_cons wd_840 (gi_cons wd_839 (gi_cons wd_838 (gi_cons wd_25 (gi_cons wd_837 (gi_cons wd_610 (gi_nil))))))))))))))))))))))))
set_option maxRecDepth 20000 in
theorem gr_wsX9_sheet_r2 : GoodIn lw_tbl wsX9_sheet_r2 := gi_cons wd_609 (gi_cons wd_608 (gi_nil))
set_option maxRecDepth 20000 in
theorem gr_wsX9_sheet : GoodIn lw_tbl wsX9_sheet := gi_cons wd_836 (goodIn_app (goodIn_app (goodIn_app (gr_wsX9_sheet_r1) (gr_wsX9_sheet_r2)) (gu_X9)) (gu_X6))
theorem wd_849 : GW (.methodLink RL 113 yX9_sheet) := ⟨in_wsL_law_r36 _ (List.mem_of_getElem? (i := 4) rfl), good_of_word (by decide +kernel)⟩
theorem wd_850 : GW (.instanceMethod yX9_sheet) := ⟨in_wsL_law_r36 _ (List.mem_of_getElem? (i := 5) rfl), good_of_word (by decide +kernel)⟩
theorem wd_851 : GW (.selects RX9 yX9_sheet yX9_sheet) := ⟨in_wsL_law_r36 _ (List.mem_of_getElem? (i := 6) rfl), good_of_word (by decide +kernel)⟩
theorem gq_X9_sheet : GoodIn lw_tbl (wsV RL 113 RX9 yX9_sheet wsX9_sheet) := goodIn_app (gi_cons wd_849 (gi_cons wd_850 (gi_cons wd_851 (gi_cons wd_82 gi_nil)))) gr_wsX9_sheet
theorem wd_852 : GW (.code yX10_sheet cX10_sheet 5 (some .int)) := ⟨in_wsL_law_r36 _ (List.mem_of_getElem? (i := 23) rfl), good_of_word (by decide +kernel)⟩
theorem wd_853 : GW (.code yX10_isSheet cX10_isSheet 1 (some .boolean)) := ⟨in_wsL_law_r37 _ (List.mem_of_getElem? (i := 2) rfl), good_of_word (by decide +kernel)⟩
theorem wd_854 : GW (.static yX10_isSheet) := ⟨in_wsL_law_r37 _ (List.mem_of_getElem? (i := 1) rfl), good_of_word (by decide +kernel)⟩
theorem wd_855 : GW (.methodLink RX10 298 yX10_isSheet) := ⟨in_wsL_law_r37 _ (List.mem_of_getElem? (i := 0) rfl), good_of_word (by decide +kernel)⟩
set_option maxRecDepth 20000 in
theorem gr_wsX10_sheet : GoodIn lw_tbl wsX10_sheet := gi_cons wd_852 (goodIn_app (gi_cons wd_146 (gi_cons wd_306 (gi_cons wd_54 (gi_cons wd_53 (gi_cons wd_52 (gi_cons wd_855 (gi_cons wd_854 (gi_cons wd_140 (gi_cons wd_853 (gi_cons wd_142 (gi_cons wd_141 (gi_cons wd_139 (gi_cons wd_138 (gi_cons wd_137 (gi_cons wd_136 (gi_cons wd_135 (gi_cons wd_134 (gi_nil)))))))))))))))))) (gu_X10))
theorem wd_856 : GW (.methodLink RL 116 yX10_sheet) := ⟨in_wsL_law_r36 _ (List.mem_of_getElem? (i := 20) rfl), good_of_word (by decide +kernel)⟩
theorem wd_857 : GW (.instanceMethod yX10_sheet) := ⟨in_wsL_law_r36 _ (List.mem_of_getElem? (i := 21) rfl), good_of_word (by decide +kernel)⟩
theorem wd_858 : GW (.selects RX10 yX10_sheet yX10_sheet) := ⟨in_wsL_law_r36 _ (List.mem_of_getElem? (i := 22) rfl), good_of_word (by decide +kernel)⟩
theorem gq_X10_sheet : GoodIn lw_tbl (wsV RL 116 RX10 yX10_sheet wsX10_sheet) := goodIn_app (gi_cons wd_856 (gi_cons wd_857 (gi_cons wd_858 (gi_cons wd_140 gi_nil)))) gr_wsX10_sheet
theorem wd_859 : GW (.code yX9_put cX9_put 5 (some .int)) := ⟨in_wsL_law_r37 _ (List.mem_of_getElem? (i := 6) rfl), good_of_word (by decide +kernel)⟩
theorem wd_860 : GW (.code yX6_hasRange cX6_hasRange 3 (some .boolean)) := ⟨in_wsL_law_r37 _ (List.mem_of_getElem? (i := 15) rfl), good_of_word (by decide +kernel)⟩
theorem wd_861 : GW (.selects RX6 yX6_hasRange yX6_hasRange) := ⟨in_wsL_law_r37 _ (List.mem_of_getElem? (i := 14) rfl), good_of_word (by decide +kernel)⟩
theorem wd_862 : GW (.instanceMethod yX6_hasRange) := ⟨in_wsL_law_r37 _ (List.mem_of_getElem? (i := 13) rfl), good_of_word (by decide +kernel)⟩
theorem wd_863 : GW (.methodLink RX9 293 yX6_hasRange) := ⟨in_wsL_law_r37 _ (List.mem_of_getElem? (i := 12) rfl), good_of_word (by decide +kernel)⟩
theorem wd_864 : GW (.code yX6_isMissing cX6_isMissing 1 (some .boolean)) := ⟨in_wsL_law_r37 _ (List.mem_of_getElem? (i := 11) rfl), good_of_word (by decide +kernel)⟩
theorem wd_865 : GW (.selects RX6 yX6_isMissing yX6_isMissing) := ⟨in_wsL_law_r37 _ (List.mem_of_getElem? (i := 10) rfl), good_of_word (by decide +kernel)⟩
theorem wd_866 : GW (.instanceMethod yX6_isMissing) := ⟨in_wsL_law_r37 _ (List.mem_of_getElem? (i := 9) rfl), good_of_word (by decide +kernel)⟩
theorem wd_867 : GW (.methodLink RX9 289 yX6_isMissing) := ⟨in_wsL_law_r37 _ (List.mem_of_getElem? (i := 8) rfl), good_of_word (by decide +kernel)⟩
theorem wd_868 : GW (.constant RX9 292 (-100002)) := ⟨in_wsL_law_r37 _ (List.mem_of_getElem? (i := 7) rfl), good_of_word (by decide +kernel)⟩
set_option maxRecDepth 20000 in
theorem gr_wsX9_put_r1 : GoodIn lw_tbl wsX9_put_r1 := gi_cons wd_89 (gi_cons wd_20 (gi_cons wd_868 (gi_cons wd_847 (gi_cons wd_846 (gi_cons wd_845 (gi_cons wd_82 (gi_cons wd_844 (gi_cons wd_85 (gi_cons wd_84 (gi_cons wd_83 (gi_cons wd_81 (gi_cons wd_80 (gi_cons wd_867 (gi_cons wd_866 (gi_cons wd_865 (gi_cons wd_4 (gi_cons wd_864 (gi_cons wd_839 (gi_cons wd_863 (gi_cons wd_862 (gi_cons wd_861 (gi_cons wd_860 (gi_cons wd_838 (gi_nil))))))))))))))))))))))))
theorem wd_869 : GW (.code yX6_write cX6_write 3 none) := ⟨in_wsL_law_r37 _ (List.mem_of_getElem? (i := 19) rfl), good_of_word (by decide +kernel)⟩
theorem wd_870 : GW (.selects RX6 yX6_write yX6_write) := ⟨in_wsL_law_r37 _ (List.mem_of_getElem? (i := 18) rfl), good_of_word (by decide +kernel)⟩
theorem wd_871 : GW (.instanceMethod yX6_write) := ⟨in_wsL_law_r37 _ (List.mem_of_getElem? (i := 17) rfl), good_of_word (by decide +kernel)⟩
theorem wd_872 : GW (.methodLink RX9 296 yX6_write) := ⟨in_wsL_law_r37 _ (List.mem_of_getElem? (i := 16) rfl), good_of_word (by decide +kernel)⟩
set_option maxRecDepth 20000 in
theorem gr_wsX9_put_r2 : GoodIn lw_tbl wsX9_put_r2 := gi_cons wd_872 (gi_cons wd_871 (gi_cons wd_870 (gi_cons wd_869 (gi_cons wd_25 (gi_nil)))))
set_option maxRecDepth 20000 in
theorem gr_wsX9_put : GoodIn lw_tbl wsX9_put := gi_cons wd_859 (goodIn_app (goodIn_app (goodIn_app (gr_wsX9_put_r1) (gr_wsX9_put_r2)) (gu_X9)) (gu_X6))
theorem wd_873 : GW (.methodLink RL 117 yX9_put) := ⟨in_wsL_law_r37 _ (List.mem_of_getElem? (i := 3) rfl), good_of_word (by decide +kernel)⟩
theorem wd_874 : GW (.instanceMethod yX9_put) := ⟨in_wsL_law_r37 _ (List.mem_of_getElem? (i := 4) rfl), good_of_word (by decide +kernel)⟩
theorem wd_875 : GW (.selects RX9 yX9_put yX9_put) := ⟨in_wsL_law_r37 _ (List.mem_of_getElem? (i := 5) rfl), good_of_word (by decide +kernel)⟩
theorem gq_X9_put : GoodIn lw_tbl (wsV RL 117 RX9 yX9_put wsX9_put) := goodIn_app (gi_cons wd_873 (gi_cons wd_874 (gi_cons wd_875 (gi_cons wd_82 gi_nil)))) gr_wsX9_put
theorem wd_876 : GW (.code yX10_put cX10_put 5 (some .int)) := ⟨in_wsL_law_r37 _ (List.mem_of_getElem? (i := 23) rfl), good_of_word (by decide +kernel)⟩
theorem wd_877 : GW (.constant RX10 301 (-100002)) := ⟨in_wsL_law_r38 _ (List.mem_of_getElem? (i := 0) rfl), good_of_word (by decide +kernel)⟩
set_option maxRecDepth 20000 in
theorem gr_wsX10_put : GoodIn lw_tbl wsX10_put := gi_cons wd_876 (goodIn_app (gi_cons wd_146 (gi_cons wd_54 (gi_cons wd_877 (gi_cons wd_53 (gi_cons wd_52 (gi_cons wd_855 (gi_cons wd_854 (gi_cons wd_140 (gi_cons wd_853 (gi_cons wd_142 (gi_cons wd_141 (gi_cons wd_139 (gi_cons wd_138 (gi_cons wd_137 (gi_cons wd_136 (gi_cons wd_135 (gi_cons wd_134 (gi_nil)))))))))))))))))) (gu_X10))
theorem wd_878 : GW (.methodLink RL 120 yX10_put) := ⟨in_wsL_law_r37 _ (List.mem_of_getElem? (i := 20) rfl), good_of_word (by decide +kernel)⟩
theorem wd_879 : GW (.instanceMethod yX10_put) := ⟨in_wsL_law_r37 _ (List.mem_of_getElem? (i := 21) rfl), good_of_word (by decide +kernel)⟩
theorem wd_880 : GW (.selects RX10 yX10_put yX10_put) := ⟨in_wsL_law_r37 _ (List.mem_of_getElem? (i := 22) rfl), good_of_word (by decide +kernel)⟩
theorem gq_X10_put : GoodIn lw_tbl (wsV RL 120 RX10 yX10_put wsX10_put) := goodIn_app (gi_cons wd_878 (gi_cons wd_879 (gi_cons wd_880 (gi_cons wd_140 gi_nil)))) gr_wsX10_put
theorem wd_881 : GW (.code yX9_copy cX9_copy 8 (some .int)) := ⟨in_wsL_law_r38 _ (List.mem_of_getElem? (i := 4) rfl), good_of_word (by decide +kernel)⟩
theorem wd_882 : GW (.initialized "java/lang/System") := ⟨in_wsL_law_r38 _ (List.mem_of_getElem? (i := 10) rfl), good_of_word (by decide +kernel)⟩
theorem wd_883 : GW (.static arraycopyName) := ⟨in_wsL_law_r38 _ (List.mem_of_getElem? (i := 9) rfl), good_of_word (by decide +kernel)⟩
theorem wd_884 : GW (.native arraycopyName) := ⟨in_wsL_law_r38 _ (List.mem_of_getElem? (i := 8) rfl), good_of_word (by decide +kernel)⟩
theorem wd_885 : GW (.methodLink RX9 305 arraycopyName) := ⟨in_wsL_law_r38 _ (List.mem_of_getElem? (i := 7) rfl), good_of_word (by decide +kernel)⟩
theorem wd_886 : GW (.fieldLink RX9 302 "ParquetLayer$Sheet" "numbers" "[I") := ⟨in_wsL_law_r38 _ (List.mem_of_getElem? (i := 6) rfl), good_of_word (by decide +kernel)⟩
theorem wd_887 : GW (.fieldLink RX9 299 "ParquetLayer$Sheet" "bits" "I") := ⟨in_wsL_law_r38 _ (List.mem_of_getElem? (i := 5) rfl), good_of_word (by decide +kernel)⟩
set_option maxRecDepth 20000 in
theorem gr_wsX9_copy_r1 : GoodIn lw_tbl wsX9_copy_r1 := gi_cons wd_89 (gi_cons wd_20 (gi_cons wd_868 (gi_cons wd_887 (gi_cons wd_70 (gi_cons wd_886 (gi_cons wd_885 (gi_cons wd_884 (gi_cons wd_883 (gi_cons wd_882 (gi_cons wd_847 (gi_cons wd_846 (gi_cons wd_845 (gi_cons wd_82 (gi_cons wd_844 (gi_cons wd_85 (gi_cons wd_84 (gi_cons wd_83 (gi_cons wd_81 (gi_cons wd_80 (gi_cons wd_867 (gi_cons wd_866 (gi_cons wd_865 (gi_cons wd_4 (gi_nil))))))))))))))))))))))))
set_option maxRecDepth 20000 in
theorem gr_wsX9_copy_r2 : GoodIn lw_tbl wsX9_copy_r2 := gi_cons wd_864 (gi_cons wd_839 (gi_cons wd_863 (gi_cons wd_862 (gi_cons wd_861 (gi_cons wd_860 (gi_cons wd_838 (gi_nil)))))))
set_option maxRecDepth 20000 in
theorem gr_wsX9_copy : GoodIn lw_tbl wsX9_copy := gi_cons wd_881 (goodIn_app (goodIn_app (goodIn_app (gr_wsX9_copy_r1) (gr_wsX9_copy_r2)) (gu_X9)) (gu_X6))
theorem wd_888 : GW (.methodLink RL 121 yX9_copy) := ⟨in_wsL_law_r38 _ (List.mem_of_getElem? (i := 1) rfl), good_of_word (by decide +kernel)⟩
theorem wd_889 : GW (.instanceMethod yX9_copy) := ⟨in_wsL_law_r38 _ (List.mem_of_getElem? (i := 2) rfl), good_of_word (by decide +kernel)⟩
theorem wd_890 : GW (.selects RX9 yX9_copy yX9_copy) := ⟨in_wsL_law_r38 _ (List.mem_of_getElem? (i := 3) rfl), good_of_word (by decide +kernel)⟩
theorem gq_X9_copy : GoodIn lw_tbl (wsV RL 121 RX9 yX9_copy wsX9_copy) := goodIn_app (gi_cons wd_888 (gi_cons wd_889 (gi_cons wd_890 (gi_cons wd_82 gi_nil)))) gr_wsX9_copy
theorem wd_891 : GW (.code yX10_copy cX10_copy 7 (some .int)) := ⟨in_wsL_law_r38 _ (List.mem_of_getElem? (i := 14) rfl), good_of_word (by decide +kernel)⟩
set_option maxRecDepth 20000 in
theorem gr_wsX10_copy : GoodIn lw_tbl wsX10_copy := gi_cons wd_891 (goodIn_app (gi_cons wd_146 (gi_cons wd_54 (gi_cons wd_877 (gi_cons wd_127 (gi_cons wd_53 (gi_cons wd_44 (gi_cons wd_52 (gi_cons wd_855 (gi_cons wd_854 (gi_cons wd_140 (gi_cons wd_853 (gi_cons wd_142 (gi_cons wd_141 (gi_cons wd_139 (gi_cons wd_138 (gi_cons wd_137 (gi_cons wd_136 (gi_cons wd_135 (gi_cons wd_134 (gi_nil)))))))))))))))))))) (gu_X10))
theorem wd_892 : GW (.methodLink RL 125 yX10_copy) := ⟨in_wsL_law_r38 _ (List.mem_of_getElem? (i := 11) rfl), good_of_word (by decide +kernel)⟩
theorem wd_893 : GW (.instanceMethod yX10_copy) := ⟨in_wsL_law_r38 _ (List.mem_of_getElem? (i := 12) rfl), good_of_word (by decide +kernel)⟩
theorem wd_894 : GW (.selects RX10 yX10_copy yX10_copy) := ⟨in_wsL_law_r38 _ (List.mem_of_getElem? (i := 13) rfl), good_of_word (by decide +kernel)⟩
theorem gq_X10_copy : GoodIn lw_tbl (wsV RL 125 RX10 yX10_copy wsX10_copy) := goodIn_app (gi_cons wd_892 (gi_cons wd_893 (gi_cons wd_894 (gi_cons wd_140 gi_nil)))) gr_wsX10_copy
theorem wd_895 : GW (.code yX9_planks cX9_planks 2 (some .int)) := ⟨in_wsL_law_r38 _ (List.mem_of_getElem? (i := 18) rfl), good_of_word (by decide +kernel)⟩
theorem wd_896 : GW (.selects RX6 yX6_toldFields yX6_toldFields) := ⟨in_wsL_law_r38 _ (List.mem_of_getElem? (i := 21) rfl), good_of_word (by decide +kernel)⟩
theorem wd_897 : GW (.instanceMethod yX6_toldFields) := ⟨in_wsL_law_r38 _ (List.mem_of_getElem? (i := 20) rfl), good_of_word (by decide +kernel)⟩
theorem wd_898 : GW (.methodLink RX9 311 yX6_toldFields) := ⟨in_wsL_law_r38 _ (List.mem_of_getElem? (i := 19) rfl), good_of_word (by decide +kernel)⟩
set_option maxRecDepth 20000 in
theorem gr_wsX9_planks_r1 : GoodIn lw_tbl wsX9_planks_r1 := gi_cons wd_89 (gi_cons wd_20 (gi_cons wd_868 (gi_cons wd_848 (gi_cons wd_277 (gi_cons wd_847 (gi_cons wd_846 (gi_cons wd_845 (gi_cons wd_82 (gi_cons wd_844 (gi_cons wd_85 (gi_cons wd_84 (gi_cons wd_83 (gi_cons wd_81 (gi_cons wd_80 (gi_cons wd_867 (gi_cons wd_866 (gi_cons wd_865 (gi_cons wd_4 (gi_cons wd_864 (gi_cons wd_839 (gi_cons wd_898 (gi_cons wd_897 (gi_cons wd_896 (gi_nil))))))))))))))))))))))))
theorem wd_899 : GW (.code yX6_toldFields cX6_toldFields 4 (some .long)) := ⟨in_wsL_law_r38 _ (List.mem_of_getElem? (i := 22) rfl), good_of_word (by decide +kernel)⟩
set_option maxRecDepth 20000 in
theorem gr_wsX9_planks_r2 : GoodIn lw_tbl wsX9_planks_r2 := gi_cons wd_899 (gi_cons wd_838 (gi_cons wd_25 (gi_cons wd_79 (gi_cons wd_78 (gi_cons wd_77 (gi_cons wd_76 (gi_cons wd_75 (gi_cons wd_74 (gi_cons wd_86 (gi_cons wd_73 (gi_cons wd_72 (gi_cons wd_71 (gi_cons wd_70 (gi_cons wd_88 (gi_cons wd_69 (gi_cons wd_68 (gi_cons wd_67 (gi_cons wd_66 (gi_cons wd_109 (gi_cons wd_108 (gi_cons wd_107 (gi_cons wd_106 (gi_cons wd_105 (gi_nil))))))))))))))))))))))))
set_option maxRecDepth 20000 in
theorem gr_wsX9_planks_r3 : GoodIn lw_tbl wsX9_planks_r3 := gi_cons wd_104 (gi_cons wd_103 (gi_cons wd_102 (gi_cons wd_101 (gi_cons wd_100 (gi_cons wd_99 (gi_cons wd_98 (gi_cons wd_97 (gi_cons wd_18 (gi_cons wd_19 (gi_cons wd_96 (gi_cons wd_95 (gi_cons wd_94 (gi_cons wd_93 (gi_cons wd_92 (gi_cons wd_91 (gi_cons wd_23 (gi_cons wd_22 (gi_cons wd_90 (gi_cons wd_118 (gi_cons wd_117 (gi_cons wd_116 (gi_cons wd_115 (gi_cons wd_114 (gi_nil))))))))))))))))))))))))
set_option maxRecDepth 20000 in
theorem gr_wsX9_planks_r4 : GoodIn lw_tbl wsX9_planks_r4 := gi_cons wd_113 (gi_cons wd_112 (gi_cons wd_111 (gi_cons wd_110 (gi_nil))))
set_option maxRecDepth 20000 in
theorem gr_wsX9_planks : GoodIn lw_tbl wsX9_planks := gi_cons wd_895 (goodIn_app (goodIn_app (goodIn_app (goodIn_app (goodIn_app (gr_wsX9_planks_r1) (goodIn_app (gr_wsX9_planks_r2) (goodIn_app (gr_wsX9_planks_r3) (gr_wsX9_planks_r4)))) (gu_X9)) (gu_X6)) (gu_X7)) (gu_X5))
theorem wd_900 : GW (.methodLink RL 126 yX9_planks) := ⟨in_wsL_law_r38 _ (List.mem_of_getElem? (i := 15) rfl), good_of_word (by decide +kernel)⟩
theorem wd_901 : GW (.instanceMethod yX9_planks) := ⟨in_wsL_law_r38 _ (List.mem_of_getElem? (i := 16) rfl), good_of_word (by decide +kernel)⟩
theorem wd_902 : GW (.selects RX9 yX9_planks yX9_planks) := ⟨in_wsL_law_r38 _ (List.mem_of_getElem? (i := 17) rfl), good_of_word (by decide +kernel)⟩
theorem gq_X9_planks : GoodIn lw_tbl (wsV RL 126 RX9 yX9_planks wsX9_planks) := goodIn_app (gi_cons wd_900 (gi_cons wd_901 (gi_cons wd_902 (gi_cons wd_82 gi_nil)))) gr_wsX9_planks
theorem wd_903 : GW (.code yX10_planks cX10_planks 5 (some .int)) := ⟨in_wsL_law_r39 _ (List.mem_of_getElem? (i := 2) rfl), good_of_word (by decide +kernel)⟩
set_option maxRecDepth 20000 in
theorem gr_wsX10_planks_r1 : GoodIn lw_tbl wsX10_planks_r1 := gi_cons wd_146 (gi_cons wd_54 (gi_cons wd_877 (gi_cons wd_53 (gi_cons wd_306 (gi_cons wd_52 (gi_cons wd_855 (gi_cons wd_854 (gi_cons wd_140 (gi_cons wd_853 (gi_cons wd_142 (gi_cons wd_141 (gi_cons wd_139 (gi_cons wd_138 (gi_cons wd_137 (gi_cons wd_136 (gi_cons wd_135 (gi_cons wd_134 (gi_cons wd_133 (gi_cons wd_132 (gi_cons wd_131 (gi_cons wd_130 (gi_cons wd_129 (gi_cons wd_143 (gi_nil))))))))))))))))))))))))
set_option maxRecDepth 20000 in
theorem gr_wsX10_planks_r2 : GoodIn lw_tbl wsX10_planks_r2 := gi_cons wd_128 (gi_cons wd_127 (gi_cons wd_145 (gi_cons wd_126 (gi_cons wd_125 (gi_cons wd_124 (gi_cons wd_123 (gi_cons wd_63 (gi_cons wd_169 (gi_cons wd_168 (gi_cons wd_167 (gi_cons wd_166 (gi_cons wd_165 (gi_cons wd_164 (gi_cons wd_163 (gi_cons wd_162 (gi_cons wd_161 (gi_cons wd_160 (gi_cons wd_159 (gi_cons wd_158 (gi_cons wd_157 (gi_cons wd_156 (gi_cons wd_155 (gi_cons wd_154 (gi_nil))))))))))))))))))))))))
set_option maxRecDepth 20000 in
theorem gr_wsX10_planks_r3 : GoodIn lw_tbl wsX10_planks_r3 := gi_cons wd_153 (gi_cons wd_152 (gi_cons wd_151 (gi_cons wd_150 (gi_cons wd_149 (gi_cons wd_148 (gi_cons wd_147 (gi_cons wd_181 (gi_cons wd_180 (gi_cons wd_179 (gi_cons wd_178 (gi_cons wd_177 (gi_cons wd_176 (gi_cons wd_61 (gi_cons wd_60 (gi_cons wd_57 (gi_cons wd_56 (gi_cons wd_55 (gi_cons wd_59 (gi_cons wd_175 (gi_cons wd_174 (gi_cons wd_173 (gi_cons wd_172 (gi_cons wd_171 (gi_nil))))))))))))))))))))))))
set_option maxRecDepth 20000 in
theorem gr_wsX10_planks_r4 : GoodIn lw_tbl wsX10_planks_r4 := gi_cons wd_170 (gi_nil)
set_option maxRecDepth 20000 in
theorem gr_wsX10_planks : GoodIn lw_tbl wsX10_planks := gi_cons wd_903 (goodIn_app (goodIn_app (gr_wsX10_planks_r1) (goodIn_app (gr_wsX10_planks_r2) (goodIn_app (gr_wsX10_planks_r3) (gr_wsX10_planks_r4)))) (gu_X10))
theorem wd_904 : GW (.methodLink RL 129 yX10_planks) := ⟨in_wsL_law_r38 _ (List.mem_of_getElem? (i := 23) rfl), good_of_word (by decide +kernel)⟩
theorem wd_905 : GW (.instanceMethod yX10_planks) := ⟨in_wsL_law_r39 _ (List.mem_of_getElem? (i := 0) rfl), good_of_word (by decide +kernel)⟩
theorem wd_906 : GW (.selects RX10 yX10_planks yX10_planks) := ⟨in_wsL_law_r39 _ (List.mem_of_getElem? (i := 1) rfl), good_of_word (by decide +kernel)⟩
theorem gq_X10_planks : GoodIn lw_tbl (wsV RL 129 RX10 yX10_planks wsX10_planks) := goodIn_app (gi_cons wd_904 (gi_cons wd_905 (gi_cons wd_906 (gi_cons wd_140 gi_nil)))) gr_wsX10_planks
theorem wd_907 : GW (.code yX9_undo cX9_undo 2 (some .int)) := ⟨in_wsL_law_r39 _ (List.mem_of_getElem? (i := 6) rfl), good_of_word (by decide +kernel)⟩
theorem wd_908 : GW (.fieldLink RX9 319 "ParquetLayer$Past" "hand" "LParquetLayer$Laying;") := ⟨in_wsL_law_r39 _ (List.mem_of_getElem? (i := 9) rfl), good_of_word (by decide +kernel)⟩
theorem wd_909 : GW (.fieldLink RX9 318 "ParquetLayer$Past" "latest" "LParquetLayer$Stone;") := ⟨in_wsL_law_r39 _ (List.mem_of_getElem? (i := 8) rfl), good_of_word (by decide +kernel)⟩
theorem wd_910 : GW (.fieldLink RX9 317 "ParquetLayer$Past" "fields" "J") := ⟨in_wsL_law_r39 _ (List.mem_of_getElem? (i := 7) rfl), good_of_word (by decide +kernel)⟩
set_option maxRecDepth 20000 in
theorem gr_wsX9_undo : GoodIn lw_tbl wsX9_undo := gi_cons wd_907 (goodIn_app (goodIn_app (gi_cons wd_97 (gi_cons wd_311 (gi_cons wd_18 (gi_cons wd_910 (gi_cons wd_88 (gi_cons wd_909 (gi_cons wd_75 (gi_cons wd_908 (gi_cons wd_69 (gi_cons wd_85 (gi_cons wd_84 (gi_cons wd_83 (gi_cons wd_82 (gi_cons wd_81 (gi_cons wd_80 (gi_nil)))))))))))))))) (gu_X9)) (gu_X5))
theorem wd_911 : GW (.methodLink RL 130 yX9_undo) := ⟨in_wsL_law_r39 _ (List.mem_of_getElem? (i := 3) rfl), good_of_word (by decide +kernel)⟩
theorem wd_912 : GW (.instanceMethod yX9_undo) := ⟨in_wsL_law_r39 _ (List.mem_of_getElem? (i := 4) rfl), good_of_word (by decide +kernel)⟩
theorem wd_913 : GW (.selects RX9 yX9_undo yX9_undo) := ⟨in_wsL_law_r39 _ (List.mem_of_getElem? (i := 5) rfl), good_of_word (by decide +kernel)⟩
theorem gq_X9_undo : GoodIn lw_tbl (wsV RL 130 RX9 yX9_undo wsX9_undo) := goodIn_app (gi_cons wd_911 (gi_cons wd_912 (gi_cons wd_913 (gi_cons wd_82 gi_nil)))) gr_wsX9_undo
theorem wd_914 : GW (.code yX10_undo cX10_undo 2 (some .int)) := ⟨in_wsL_law_r39 _ (List.mem_of_getElem? (i := 13) rfl), good_of_word (by decide +kernel)⟩
set_option maxRecDepth 20000 in
theorem gr_wsX10_undo : GoodIn lw_tbl wsX10_undo := gi_cons wd_914 (goodIn_app (gi_cons wd_176 (gi_cons wd_316 (gi_cons wd_61 (gi_cons wd_145 (gi_cons wd_60 (gi_cons wd_129 (gi_cons wd_57 (gi_cons wd_175 (gi_cons wd_56 (gi_cons wd_174 (gi_cons wd_55 (gi_cons wd_173 (gi_cons wd_63 (gi_cons wd_59 (gi_cons wd_138 (gi_cons wd_137 (gi_cons wd_136 (gi_cons wd_140 (gi_cons wd_135 (gi_cons wd_134 (gi_nil))))))))))))))))))))) (gu_X10))
theorem wd_915 : GW (.methodLink RL 133 yX10_undo) := ⟨in_wsL_law_r39 _ (List.mem_of_getElem? (i := 10) rfl), good_of_word (by decide +kernel)⟩
theorem wd_916 : GW (.instanceMethod yX10_undo) := ⟨in_wsL_law_r39 _ (List.mem_of_getElem? (i := 11) rfl), good_of_word (by decide +kernel)⟩
theorem wd_917 : GW (.selects RX10 yX10_undo yX10_undo) := ⟨in_wsL_law_r39 _ (List.mem_of_getElem? (i := 12) rfl), good_of_word (by decide +kernel)⟩
theorem gq_X10_undo : GoodIn lw_tbl (wsV RL 133 RX10 yX10_undo wsX10_undo) := goodIn_app (gi_cons wd_915 (gi_cons wd_916 (gi_cons wd_917 (gi_cons wd_140 gi_nil)))) gr_wsX10_undo
theorem wd_918 : GW (.code yX9_all cX9_all 2 (some .int)) := ⟨in_wsL_law_r39 _ (List.mem_of_getElem? (i := 17) rfl), good_of_word (by decide +kernel)⟩
theorem wd_919 : GW (.code yX9_gluedCount cX9_gluedCount 3 (some .int)) := ⟨in_wsL_law_r39 _ (List.mem_of_getElem? (i := 21) rfl), good_of_word (by decide +kernel)⟩
theorem wd_920 : GW (.selects RX9 yX9_gluedCount yX9_gluedCount) := ⟨in_wsL_law_r39 _ (List.mem_of_getElem? (i := 20) rfl), good_of_word (by decide +kernel)⟩
theorem wd_921 : GW (.instanceMethod yX9_gluedCount) := ⟨in_wsL_law_r39 _ (List.mem_of_getElem? (i := 19) rfl), good_of_word (by decide +kernel)⟩
theorem wd_922 : GW (.methodLink RX9 320 yX9_gluedCount) := ⟨in_wsL_law_r39 _ (List.mem_of_getElem? (i := 18) rfl), good_of_word (by decide +kernel)⟩
set_option maxRecDepth 20000 in
theorem gr_wsX9_all_r1 : GoodIn lw_tbl wsX9_all_r1 := gi_cons wd_69 (gi_cons wd_80 (gi_cons wd_89 (gi_cons wd_287 (gi_cons wd_286 (gi_cons wd_285 (gi_cons wd_82 (gi_cons wd_284 (gi_cons wd_75 (gi_cons wd_283 (gi_cons wd_922 (gi_cons wd_921 (gi_cons wd_920 (gi_cons wd_919 (gi_cons wd_72 (gi_cons wd_223 (gi_cons wd_222 (gi_cons wd_221 (gi_cons wd_220 (gi_cons wd_219 (gi_cons wd_218 (gi_cons wd_217 (gi_cons wd_216 (gi_cons wd_188 (gi_nil))))))))))))))))))))))))
set_option maxRecDepth 20000 in
theorem gr_wsX9_all_r2 : GoodIn lw_tbl wsX9_all_r2 := gi_cons wd_187 (gi_cons wd_186 (gi_cons wd_85 (gi_cons wd_84 (gi_cons wd_83 (gi_cons wd_81 (gi_nil))))))
set_option maxRecDepth 20000 in
theorem gr_wsX9_all : GoodIn lw_tbl wsX9_all := gi_cons wd_918 (goodIn_app (goodIn_app (goodIn_app (gr_wsX9_all_r1) (gr_wsX9_all_r2)) (gu_X9)) (gu_X7))
theorem wd_923 : GW (.methodLink RL 134 yX9_all) := ⟨in_wsL_law_r39 _ (List.mem_of_getElem? (i := 14) rfl), good_of_word (by decide +kernel)⟩
theorem wd_924 : GW (.instanceMethod yX9_all) := ⟨in_wsL_law_r39 _ (List.mem_of_getElem? (i := 15) rfl), good_of_word (by decide +kernel)⟩
theorem wd_925 : GW (.selects RX9 yX9_all yX9_all) := ⟨in_wsL_law_r39 _ (List.mem_of_getElem? (i := 16) rfl), good_of_word (by decide +kernel)⟩
theorem gq_X9_all : GoodIn lw_tbl (wsV RL 134 RX9 yX9_all wsX9_all) := goodIn_app (gi_cons wd_923 (gi_cons wd_924 (gi_cons wd_925 (gi_cons wd_82 gi_nil)))) gr_wsX9_all
theorem wd_926 : GW (.code yX10_all cX10_all 2 (some .int)) := ⟨in_wsL_law_r40 _ (List.mem_of_getElem? (i := 1) rfl), good_of_word (by decide +kernel)⟩
set_option maxRecDepth 20000 in
theorem gr_wsX10_all_r1 : GoodIn lw_tbl wsX10_all_r1 := gi_cons wd_146 (gi_cons wd_129 (gi_cons wd_175 (gi_cons wd_134 (gi_cons wd_142 (gi_cons wd_141 (gi_cons wd_140 (gi_cons wd_139 (gi_cons wd_138 (gi_cons wd_137 (gi_cons wd_136 (gi_cons wd_135 (gi_cons wd_252 (gi_cons wd_251 (gi_cons wd_250 (gi_cons wd_249 (gi_cons wd_248 (gi_cons wd_247 (gi_cons wd_246 (gi_cons wd_245 (gi_cons wd_161 (gi_cons wd_160 (gi_cons wd_159 (gi_cons wd_158 (gi_nil))))))))))))))))))))))))
set_option maxRecDepth 20000 in
theorem gr_wsX10_all_r2 : GoodIn lw_tbl wsX10_all_r2 := gi_cons wd_63 (gi_nil)
set_option maxRecDepth 20000 in
theorem gr_wsX10_all : GoodIn lw_tbl wsX10_all := gi_cons wd_926 (goodIn_app (goodIn_app (gr_wsX10_all_r1) (gr_wsX10_all_r2)) (gu_X10))
theorem wd_927 : GW (.methodLink RL 137 yX10_all) := ⟨in_wsL_law_r39 _ (List.mem_of_getElem? (i := 22) rfl), good_of_word (by decide +kernel)⟩
theorem wd_928 : GW (.instanceMethod yX10_all) := ⟨in_wsL_law_r39 _ (List.mem_of_getElem? (i := 23) rfl), good_of_word (by decide +kernel)⟩
theorem wd_929 : GW (.selects RX10 yX10_all yX10_all) := ⟨in_wsL_law_r40 _ (List.mem_of_getElem? (i := 0) rfl), good_of_word (by decide +kernel)⟩
theorem gq_X10_all : GoodIn lw_tbl (wsV RL 137 RX10 yX10_all wsX10_all) := goodIn_app (gi_cons wd_927 (gi_cons wd_928 (gi_cons wd_929 (gi_cons wd_140 gi_nil)))) gr_wsX10_all
