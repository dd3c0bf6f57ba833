set_option maxRecDepth 20000 in
theorem ggX0_takeFile_X4_allow : GoodIn wsX0_takeFile wsX4_allow := goodIn_r _ [9, 10, 11, 12, 13, 14, 15, 16, 17, 18, 19, 20, 21, 22, 23, 24, 25, 26, 8, 27, 28, 29, 30, 73, 74] (by decide +kernel) (by decide +kernel)
set_option maxRecDepth 20000 in
theorem gX0_takeFile_X4_allow : GoodIn wsX0_takeFile (va_wsS RX0 30 yX4_allow wsX4_allow) := goodIn_app (goodIn_of _ (by decide +kernel)) ggX0_takeFile_X4_allow
set_option maxRecDepth 20000 in
theorem ggX0_takeFile_X5_copy : GoodIn wsX0_takeFile wsX5_copy := goodIn_r _ [34, 35, 36, 13, 15, 20, 37, 38, 39, 40, 41, 42, 43, 44, 45, 46, 47, 48, 49, 50, 51, 73, 74] (by decide +kernel) (by decide +kernel)
set_option maxRecDepth 20000 in
theorem gX0_takeFile_X5_copy : GoodIn wsX0_takeFile (wsV RX0 36 RX5 yX5_copy wsX5_copy) := goodIn_app (goodIn_of _ (by decide +kernel)) ggX0_takeFile_X5_copy
set_option maxRecDepth 20000 in
theorem ggX0_takeFile_X1_init : GoodIn wsX0_takeFile wsX1_init := goodIn_r _ [54, 55, 41, 42, 56, 57, 58, 59, 60, 61, 62, 13, 63, 15, 64, 20, 69, 70, 71, 72, 73, 74] (by decide +kernel) (by decide +kernel)
set_option maxRecDepth 20000 in
theorem gX0_takeFile_X1_init : GoodIn wsX0_takeFile (wsX1_init) := ggX0_takeFile_X1_init
set_option maxRecDepth 20000 in
theorem ggX0_takeLine_X4_allow : GoodIn wsX0_takeLine wsX4_allow := goodIn_r _ [9, 10, 11, 12, 13, 14, 15, 16, 17, 18, 19, 20, 21, 22, 23, 24, 25, 26, 8, 27, 28, 29, 30, 66, 67] (by decide +kernel) (by decide +kernel)
set_option maxRecDepth 20000 in
theorem gX0_takeLine_X4_allow : GoodIn wsX0_takeLine (va_wsS RX0 30 yX4_allow wsX4_allow) := goodIn_app (goodIn_of _ (by decide +kernel)) ggX0_takeLine_X4_allow
set_option maxRecDepth 20000 in
theorem ggX0_takeLine_X5_copy : GoodIn wsX0_takeLine wsX5_copy := goodIn_r _ [34, 35, 36, 13, 15, 20, 37, 38, 39, 40, 41, 42, 43, 44, 45, 46, 47, 48, 49, 50, 51, 66, 67] (by decide +kernel) (by decide +kernel)
set_option maxRecDepth 20000 in
theorem gX0_takeLine_X5_copy : GoodIn wsX0_takeLine (wsV RX0 36 RX5 yX5_copy wsX5_copy) := goodIn_app (goodIn_of _ (by decide +kernel)) ggX0_takeLine_X5_copy
set_option maxRecDepth 20000 in
theorem ggX0_takeLine_X3_init : GoodIn wsX0_takeLine wsX3_init := goodIn_r _ [54, 55, 41, 42, 56, 57, 58, 63, 64, 65] (by decide +kernel) (by decide +kernel)
set_option maxRecDepth 20000 in
theorem gX0_takeLine_X3_init : GoodIn wsX0_takeLine (wsX3_init) := ggX0_takeLine_X3_init
set_option maxRecDepth 20000 in
theorem ggX0_tellFaults_X2_clear : GoodIn wsX0_tellFaults wsX2_clear := goodIn_r _ [7, 8, 59, 60, 61] (by decide +kernel) (by decide +kernel)
set_option maxRecDepth 20000 in
theorem gX0_tellFaults_X2_clear : GoodIn wsX0_tellFaults (wsV RX0 48 RX2 yX2_clear wsX2_clear) := goodIn_app (goodIn_of _ (by decide +kernel)) ggX0_tellFaults_X2_clear
set_option maxRecDepth 20000 in
theorem ggX0_tellFaults_X0_faultOfLine : GoodIn wsX0_tellFaults wsX0_faultOfLine := goodIn_r _ [13, 14, 15, 2, 16, 17, 18, 19, 20, 21, 22, 23, 12, 24, 1, 25, 26, 27, 28, 29, 30, 31, 32, 33, 34, 35, 36, 37, 38, 39, 40, 41, 42, 43, 44, 55, 56, 57, 58, 62, 63, 64, 65, 66, 67, 68, 69, 70] (by decide +kernel) (by decide +kernel)
set_option maxRecDepth 20000 in
theorem gX0_tellFaults_X0_faultOfLine : GoodIn wsX0_tellFaults (wsV RX0 53 RX0 yX0_faultOfLine wsX0_faultOfLine) := goodIn_app (goodIn_of _ (by decide +kernel)) ggX0_tellFaults_X0_faultOfLine
set_option maxRecDepth 20000 in
theorem ggX0_tellFaults_X2_note : GoodIn wsX0_tellFaults wsX2_note := goodIn_r _ [48, 8, 49, 50, 59, 60, 61] (by decide +kernel) (by decide +kernel)
set_option maxRecDepth 20000 in
theorem gX0_tellFaults_X2_note : GoodIn wsX0_tellFaults (wsV RX0 57 RX2 yX2_note wsX2_note) := goodIn_app (goodIn_of _ (by decide +kernel)) ggX0_tellFaults_X2_note
set_option maxRecDepth 20000 in
theorem ggX0_tellFaults_X0_faultOfFile : GoodIn wsX0_tellFaults wsX0_faultOfFile := goodIn_r _ [54, 16, 40, 1, 36, 37, 38, 12, 39, 2, 25, 26, 27, 28, 29, 30, 31, 32, 33, 34, 35, 21, 22, 23, 24, 14, 15, 55, 56, 57, 58, 65, 66, 67, 68, 69, 70, 62, 63, 64] (by decide +kernel) (by decide +kernel)
set_option maxRecDepth 20000 in
theorem gX0_tellFaults_X0_faultOfFile : GoodIn wsX0_tellFaults (wsV RX0 61 RX0 yX0_faultOfFile wsX0_faultOfFile) := goodIn_app (goodIn_of _ (by decide +kernel)) ggX0_tellFaults_X0_faultOfFile
set_option maxRecDepth 20000 in
theorem ggX0_faultOfLine_X0_firstLine : GoodIn wsX0_faultOfLine wsX0_firstLine := goodIn_r _ [13, 14, 1, 2, 15, 16, 17, 18, 19, 20, 21, 22, 23, 24, 25, 35, 36, 37, 38, 39, 40, 41, 46, 47] (by decide +kernel) (by decide +kernel)
set_option maxRecDepth 20000 in
theorem gX0_faultOfLine_X0_firstLine : GoodIn wsX0_faultOfLine (wsV RX0 68 RX0 yX0_firstLine wsX0_firstLine) := goodIn_app (goodIn_of _ (by decide +kernel)) ggX0_faultOfLine_X0_firstLine
set_option maxRecDepth 20000 in
theorem ggX0_faultOfLine_X0_firstFile : GoodIn wsX0_faultOfLine wsX0_firstFile := goodIn_r _ [29, 3, 4, 30, 15, 16, 17, 18, 19, 20, 21, 22, 23, 24, 25, 35, 36, 37, 38, 42, 43, 44, 45, 46, 47] (by decide +kernel) (by decide +kernel)
set_option maxRecDepth 20000 in
theorem gX0_faultOfLine_X0_firstFile : GoodIn wsX0_faultOfLine (wsV RX0 72 RX0 yX0_firstFile wsX0_firstFile) := goodIn_app (goodIn_of _ (by decide +kernel)) ggX0_faultOfLine_X0_firstFile
set_option maxRecDepth 20000 in
theorem ggX0_faultOfLine_X5_size : GoodIn wsX0_faultOfLine wsX5_size := goodIn_r _ [34, 20, 46, 47] (by decide +kernel) (by decide +kernel)
set_option maxRecDepth 20000 in
theorem gX0_faultOfLine_X5_size : GoodIn wsX0_faultOfLine (wsV RX0 78 RX5 yX5_size wsX5_size) := goodIn_app (goodIn_of _ (by decide +kernel)) ggX0_faultOfLine_X5_size
set_option maxRecDepth 20000 in
theorem ggX0_faultOfFile_X0_firstFile : GoodIn wsX0_faultOfFile wsX0_firstFile := goodIn_r _ [8, 9, 1, 2, 10, 11, 12, 13, 14, 15, 16, 17, 18, 19, 20, 27, 28, 29, 30, 31, 32, 33, 34, 35, 36] (by decide +kernel) (by decide +kernel)
set_option maxRecDepth 20000 in
theorem gX0_faultOfFile_X0_firstFile : GoodIn wsX0_faultOfFile (wsV RX0 72 RX0 yX0_firstFile wsX0_firstFile) := goodIn_app (goodIn_of _ (by decide +kernel)) ggX0_faultOfFile_X0_firstFile
set_option maxRecDepth 20000 in
theorem ggX0_faultOfFile_X0_firstLine : GoodIn wsX0_faultOfFile wsX0_firstLine := goodIn_r _ [24, 3, 25, 26, 10, 11, 12, 13, 14, 15, 16, 17, 18, 19, 20, 27, 28, 29, 30, 37, 38, 39, 35, 36] (by decide +kernel) (by decide +kernel)
set_option maxRecDepth 20000 in
theorem gX0_faultOfFile_X0_firstLine : GoodIn wsX0_faultOfFile (wsV RX0 68 RX0 yX0_firstLine wsX0_firstLine) := goodIn_app (goodIn_of _ (by decide +kernel)) ggX0_faultOfFile_X0_firstLine
set_option maxRecDepth 20000 in
theorem ggX0_firstLine_X5_alike : GoodIn wsX0_firstLine wsX5_alike := goodIn_r _ [8, 9, 10, 11, 12, 7, 13, 14, 22, 23] (by decide +kernel) (by decide +kernel)
set_option maxRecDepth 20000 in
theorem gX0_firstLine_X5_alike : GoodIn wsX0_firstLine (wsV RX0 92 RX5 yX5_alike wsX5_alike) := goodIn_app (goodIn_of _ (by decide +kernel)) ggX0_firstLine_X5_alike
set_option maxRecDepth 20000 in
theorem ggX0_firstFile_X5_alike : GoodIn wsX0_firstFile wsX5_alike := goodIn_r _ [8, 9, 10, 11, 12, 7, 13, 14, 23, 24] (by decide +kernel) (by decide +kernel)
set_option maxRecDepth 20000 in
theorem gX0_firstFile_X5_alike : GoodIn wsX0_firstFile (wsV RX0 92 RX5 yX5_alike wsX5_alike) := goodIn_app (goodIn_of _ (by decide +kernel)) ggX0_firstFile_X5_alike
set_option maxRecDepth 20000 in
theorem ggX0_toVersion_X7_init : GoodIn wsX0_toVersion wsX7_init := goodIn_r _ [8, 9, 10, 11, 12, 13, 14, 52, 53] (by decide +kernel) (by decide +kernel)
set_option maxRecDepth 20000 in
theorem gX0_toVersion_X7_init : GoodIn wsX0_toVersion (wsX7_init) := ggX0_toVersion_X7_init
set_option maxRecDepth 20000 in
theorem ggX0_toVersion_X0_sharedOrNew : GoodIn wsX0_toVersion wsX0_sharedOrNew := goodIn_r _ [18, 19, 20, 21, 22, 23, 24, 3, 25, 26, 27, 28, 29, 14, 13, 30, 31, 32, 33, 34, 35, 36, 37, 38, 39, 40, 41, 42, 43, 44, 45, 46, 58, 59, 60, 61, 52, 53, 62, 63] (by decide +kernel) (by decide +kernel)
set_option maxRecDepth 20000 in
theorem gX0_toVersion_X0_sharedOrNew : GoodIn wsX0_toVersion (va_wsS RX0 98 yX0_sharedOrNew wsX0_sharedOrNew) := goodIn_app (goodIn_of _ (by decide +kernel)) ggX0_toVersion_X0_sharedOrNew
set_option maxRecDepth 20000 in
theorem ggX0_toVersion_X7_insert : GoodIn wsX0_toVersion wsX7_insert := goodIn_r _ [50, 14, 13, 30, 51, 38, 39, 34, 40, 36, 41, 52, 53, 58, 59, 60, 61, 62, 63] (by decide +kernel) (by decide +kernel)
set_option maxRecDepth 20000 in
theorem gX0_toVersion_X7_insert : GoodIn wsX0_toVersion (wsV RX0 102 RX7 yX7_insert wsX7_insert) := goodIn_app (goodIn_of _ (by decide +kernel)) ggX0_toVersion_X7_insert
set_option maxRecDepth 20000 in
theorem ggX0_sharedOrNew_X7_entryOfPath : GoodIn wsX0_sharedOrNew wsX7_entryOfPath := goodIn_r _ [8, 9, 10, 11, 7, 12, 13, 14, 15, 16, 17, 18, 19, 20, 21, 22, 23, 24, 25, 26, 27, 28, 29, 30, 36, 37, 32, 33, 34, 35, 38, 39] (by decide +kernel) (by decide +kernel)
set_option maxRecDepth 20000 in
theorem gX0_sharedOrNew_X7_entryOfPath : GoodIn wsX0_sharedOrNew (wsV RX0 106 RX7 yX7_entryOfPath wsX7_entryOfPath) := goodIn_app (goodIn_of _ (by decide +kernel)) ggX0_sharedOrNew_X7_entryOfPath
set_option maxRecDepth 20000 in
theorem ggX0_sharedOrNew_X5_alike : GoodIn wsX0_sharedOrNew wsX5_alike := goodIn_r _ [20, 21, 22, 23, 24, 19, 25, 26, 38, 39] (by decide +kernel) (by decide +kernel)
set_option maxRecDepth 20000 in
theorem gX0_sharedOrNew_X5_alike : GoodIn wsX0_sharedOrNew (wsV RX0 92 RX5 yX5_alike wsX5_alike) := goodIn_app (goodIn_of _ (by decide +kernel)) ggX0_sharedOrNew_X5_alike
set_option maxRecDepth 20000 in
theorem ggX1_init_X5_sumOfBytes : GoodIn wsX1_init wsX5_sumOfBytes := goodIn_r _ [12, 13, 14, 15, 20, 21] (by decide +kernel) (by decide +kernel)
set_option maxRecDepth 20000 in
theorem gX1_init_X5_sumOfBytes : GoodIn wsX1_init (wsV RX1 18 RX5 yX5_sumOfBytes wsX5_sumOfBytes) := goodIn_app (goodIn_of _ (by decide +kernel)) ggX1_init_X5_sumOfBytes
set_option maxRecDepth 20000 in
theorem ggX2_kindOf_X2_has : GoodIn wsX2_kindOf wsX2_has := goodIn_r _ [6, 7, 8, 9, 10] (by decide +kernel) (by decide +kernel)
set_option maxRecDepth 20000 in
theorem gX2_kindOf_X2_has : GoodIn wsX2_kindOf (wsV RX2 22 RX2 yX2_has wsX2_has) := goodIn_app (goodIn_of _ (by decide +kernel)) ggX2_kindOf_X2_has
set_option maxRecDepth 20000 in
theorem ggX2_numberOf_X2_has : GoodIn wsX2_numberOf wsX2_has := goodIn_r _ [6, 7, 8, 9, 10] (by decide +kernel) (by decide +kernel)
set_option maxRecDepth 20000 in
theorem gX2_numberOf_X2_has : GoodIn wsX2_numberOf (wsV RX2 22 RX2 yX2_has wsX2_has) := goodIn_app (goodIn_of _ (by decide +kernel)) ggX2_numberOf_X2_has
set_option maxRecDepth 20000 in
theorem ggX4_allow_X5_size : GoodIn wsX4_allow wsX5_size := goodIn_r _ [5, 6, 23, 24] (by decide +kernel) (by decide +kernel)
set_option maxRecDepth 20000 in
theorem gX4_allow_X5_size : GoodIn wsX4_allow (wsV RX4 9 RX5 yX5_size wsX5_size) := goodIn_app (goodIn_of _ (by decide +kernel)) ggX4_allow_X5_size
set_option maxRecDepth 20000 in
theorem ggX4_allow_X5_cell : GoodIn wsX4_allow wsX5_cell := goodIn_r _ [10, 11, 12, 13, 14, 4, 15, 6, 23, 24] (by decide +kernel) (by decide +kernel)
set_option maxRecDepth 20000 in
theorem gX4_allow_X5_cell : GoodIn wsX4_allow (wsV RX4 15 RX5 yX5_cell wsX5_cell) := goodIn_app (goodIn_of _ (by decide +kernel)) ggX4_allow_X5_cell
set_option maxRecDepth 20000 in
theorem ggX4_allow_X4_allowPart : GoodIn wsX4_allow wsX4_allowPart := goodIn_r _ [19, 7, 8, 9, 4, 10, 11, 12, 13, 14, 15, 6, 23, 24] (by decide +kernel) (by decide +kernel)
set_option maxRecDepth 20000 in
theorem gX4_allow_X4_allowPart : GoodIn wsX4_allow (va_wsS RX4 19 yX4_allowPart wsX4_allowPart) := goodIn_app (goodIn_of _ (by decide +kernel)) ggX4_allow_X4_allowPart
set_option maxRecDepth 20000 in
theorem ggX4_allow_X4_allowInPart : GoodIn wsX4_allow wsX4_allowInPart := goodIn_r _ [22] (by decide +kernel) (by decide +kernel)
set_option maxRecDepth 20000 in
theorem gX4_allow_X4_allowInPart : GoodIn wsX4_allow (va_wsS RX4 25 yX4_allowInPart wsX4_allowInPart) := goodIn_app (goodIn_of _ (by decide +kernel)) ggX4_allow_X4_allowInPart
set_option maxRecDepth 20000 in
theorem ggX4_allowPart_X5_cell : GoodIn wsX4_allowPart wsX5_cell := goodIn_r _ [5, 6, 7, 8, 9, 4, 10, 11, 12, 13] (by decide +kernel) (by decide +kernel)
set_option maxRecDepth 20000 in
theorem gX4_allowPart_X5_cell : GoodIn wsX4_allowPart (wsV RX4 15 RX5 yX5_cell wsX5_cell) := goodIn_app (goodIn_of _ (by decide +kernel)) ggX4_allowPart_X5_cell
set_option maxRecDepth 20000 in
theorem ggX5_cell_X5_has : GoodIn wsX5_cell wsX5_has := goodIn_r _ [6, 7, 8, 9] (by decide +kernel) (by decide +kernel)
set_option maxRecDepth 20000 in
theorem gX5_cell_X5_has : GoodIn wsX5_cell (wsV RX5 25 RX5 yX5_has wsX5_has) := goodIn_app (goodIn_of _ (by decide +kernel)) ggX5_cell_X5_has
set_option maxRecDepth 20000 in
theorem ggX5_copy_X5_init : GoodIn wsX5_copy wsX5_init := goodIn_r _ [8, 9, 10, 11, 12, 13, 14, 15, 16, 5, 4, 21, 22] (by decide +kernel) (by decide +kernel)
set_option maxRecDepth 20000 in
theorem gX5_copy_X5_init : GoodIn wsX5_copy (wsX5_init) := ggX5_copy_X5_init
set_option maxRecDepth 20000 in
theorem ggX5_copy_X5_append : GoodIn wsX5_copy wsX5_append := goodIn_r _ [20, 4, 5, 21, 22] (by decide +kernel) (by decide +kernel)
set_option maxRecDepth 20000 in
theorem gX5_copy_X5_append : GoodIn wsX5_copy (wsV RX5 32 RX5 yX5_append wsX5_append) := goodIn_app (goodIn_of _ (by decide +kernel)) ggX5_copy_X5_append
set_option maxRecDepth 20000 in
theorem ggX5_alike_X5_order : GoodIn wsX5_alike wsX5_order := goodIn_r _ [6, 1, 7, 8, 9] (by decide +kernel) (by decide +kernel)
set_option maxRecDepth 20000 in
theorem gX5_alike_X5_order : GoodIn wsX5_alike (wsV RX5 36 RX5 yX5_order wsX5_order) := goodIn_app (goodIn_of _ (by decide +kernel)) ggX5_alike_X5_order
set_option maxRecDepth 20000 in
theorem ggX6_begin_X7_byteCount : GoodIn wsX6_begin wsX7_byteCount := goodIn_r _ [13, 14, 15, 16, 17, 18, 19, 20, 21, 22, 27, 28, 29, 30, 31, 32, 33, 34] (by decide +kernel) (by decide +kernel)
set_option maxRecDepth 20000 in
theorem gX6_begin_X7_byteCount : GoodIn wsX6_begin (wsV RX6 26 RX7 yX7_byteCount wsX7_byteCount) := goodIn_app (goodIn_of _ (by decide +kernel)) ggX6_begin_X7_byteCount
set_option maxRecDepth 20000 in
theorem ggX6_joinedByte_X7_byteInAll : GoodIn wsX6_joinedByte wsX7_byteInAll := goodIn_r _ [7, 8, 9, 10, 11, 12, 13, 14, 15, 16, 17, 18, 19, 20, 21, 22, 23, 24, 25, 30, 31, 32, 33, 34, 35, 36, 37] (by decide +kernel) (by decide +kernel)
set_option maxRecDepth 20000 in
theorem gX6_joinedByte_X7_byteInAll : GoodIn wsX6_joinedByte (wsV RX6 38 RX7 yX7_byteInAll wsX7_byteInAll) := goodIn_app (goodIn_of _ (by decide +kernel)) ggX6_joinedByte_X7_byteInAll
set_option maxRecDepth 20000 in
theorem ggX7_insert_X5_order : GoodIn wsX7_insert wsX5_order := goodIn_r _ [8, 9, 10, 17, 18] (by decide +kernel) (by decide +kernel)
set_option maxRecDepth 20000 in
theorem gX7_insert_X5_order : GoodIn wsX7_insert (wsV RX7 25 RX5 yX5_order wsX5_order) := goodIn_app (goodIn_of _ (by decide +kernel)) ggX7_insert_X5_order
set_option maxRecDepth 20000 in
theorem ggX7_placeOf_X5_alike : GoodIn wsX7_placeOf wsX5_alike := goodIn_r _ [8, 9, 10, 11, 12, 7, 13, 14, 21, 22] (by decide +kernel) (by decide +kernel)
set_option maxRecDepth 20000 in
theorem gX7_placeOf_X5_alike : GoodIn wsX7_placeOf (wsV RX7 31 RX5 yX5_alike wsX5_alike) := goodIn_app (goodIn_of _ (by decide +kernel)) ggX7_placeOf_X5_alike
set_option maxRecDepth 20000 in
theorem ggX7_entryOfPath_X7_placeOf : GoodIn wsX7_entryOfPath wsX7_placeOf := goodIn_r _ [5, 6, 7, 8, 9, 10, 11, 12, 13, 14, 15, 16, 17, 18, 19, 24, 25, 26, 27, 28, 29, 30, 31] (by decide +kernel) (by decide +kernel)
set_option maxRecDepth 20000 in
theorem gX7_entryOfPath_X7_placeOf : GoodIn wsX7_entryOfPath (wsV RX7 35 RX7 yX7_placeOf wsX7_placeOf) := goodIn_app (goodIn_of _ (by decide +kernel)) ggX7_entryOfPath_X7_placeOf
set_option maxRecDepth 20000 in
theorem ggX7_entryOfPath_X7_entryOrNull : GoodIn wsX7_entryOfPath wsX7_entryOrNull := goodIn_r _ [23, 6, 7, 24, 25] (by decide +kernel) (by decide +kernel)
set_option maxRecDepth 20000 in
theorem gX7_entryOfPath_X7_entryOrNull : GoodIn wsX7_entryOfPath (wsV RX7 38 RX7 yX7_entryOrNull wsX7_entryOrNull) := goodIn_app (goodIn_of _ (by decide +kernel)) ggX7_entryOfPath_X7_entryOrNull
set_option maxRecDepth 20000 in
theorem ggX7_countAlike_X7_entryOfPath : GoodIn wsX7_countAlike wsX7_entryOfPath := goodIn_r _ [9, 10, 11, 12, 8, 13, 1, 2, 3, 14, 15, 16, 17, 18, 19, 20, 21, 22, 23, 24, 25, 26, 27, 28, 29, 30, 31, 32, 33, 34, 35, 36] (by decide +kernel) (by decide +kernel)
set_option maxRecDepth 20000 in
theorem gX7_countAlike_X7_entryOfPath : GoodIn wsX7_countAlike (wsV RX7 42 RX7 yX7_entryOfPath wsX7_entryOfPath) := goodIn_app (goodIn_of _ (by decide +kernel)) ggX7_countAlike_X7_entryOfPath
set_option maxRecDepth 20000 in
theorem ggX7_countAlike_X5_alike : GoodIn wsX7_countAlike wsX5_alike := goodIn_r _ [18, 19, 20, 21, 22, 17, 23, 24, 35, 36] (by decide +kernel) (by decide +kernel)
set_option maxRecDepth 20000 in
theorem gX7_countAlike_X5_alike : GoodIn wsX7_countAlike (wsV RX7 31 RX5 yX5_alike wsX5_alike) := goodIn_app (goodIn_of _ (by decide +kernel)) ggX7_countAlike_X5_alike
set_option maxRecDepth 20000 in
theorem ggX7_byteCount_X5_size : GoodIn wsX7_byteCount wsX5_size := goodIn_r _ [8, 9, 16, 17] (by decide +kernel) (by decide +kernel)
set_option maxRecDepth 20000 in
theorem gX7_byteCount_X5_size : GoodIn wsX7_byteCount (wsV RX7 49 RX5 yX5_size wsX5_size) := goodIn_app (goodIn_of _ (by decide +kernel)) ggX7_byteCount_X5_size
set_option maxRecDepth 20000 in
theorem ggX7_byteInAll_X5_size : GoodIn wsX7_byteInAll wsX5_size := goodIn_r _ [8, 9, 25, 26] (by decide +kernel) (by decide +kernel)
set_option maxRecDepth 20000 in
theorem gX7_byteInAll_X5_size : GoodIn wsX7_byteInAll (wsV RX7 49 RX5 yX5_size wsX5_size) := goodIn_app (goodIn_of _ (by decide +kernel)) ggX7_byteInAll_X5_size
set_option maxRecDepth 20000 in
theorem ggX7_byteInAll_X5_cell : GoodIn wsX7_byteInAll wsX5_cell := goodIn_r _ [13, 14, 15, 16, 17, 7, 18, 9, 25, 26] (by decide +kernel) (by decide +kernel)
set_option maxRecDepth 20000 in
theorem gX7_byteInAll_X5_cell : GoodIn wsX7_byteInAll (wsV RX7 53 RX5 yX5_cell wsX5_cell) := goodIn_app (goodIn_of _ (by decide +kernel)) ggX7_byteInAll_X5_cell
set_option maxRecDepth 20000 in
theorem ggX8_init_X5_init : GoodIn wsX8_init wsX5_init := goodIn_r _ [26, 27, 2, 3, 28, 29, 30, 31, 32, 33, 34, 61, 62] (by decide +kernel) (by decide +kernel)
set_option maxRecDepth 20000 in
theorem gX8_init_X5_init : GoodIn wsX8_init (wsX5_init) := ggX8_init_X5_init
set_option maxRecDepth 20000 in
theorem ggX8_init_X0_init : GoodIn wsX8_init wsX0_init := goodIn_r _ [37, 38, 2, 3, 39, 40, 41, 42, 43, 44, 70, 71, 72, 73] (by decide +kernel) (by decide +kernel)
set_option maxRecDepth 20000 in
theorem gX8_init_X0_init : GoodIn wsX8_init (wsX0_init) := ggX8_init_X0_init
set_option maxRecDepth 20000 in
theorem ggX8_init_X2_init : GoodIn wsX8_init wsX2_init := goodIn_r _ [47, 48, 2, 3, 32, 49, 50, 51, 74, 75, 76] (by decide +kernel) (by decide +kernel)
set_option maxRecDepth 20000 in
theorem gX8_init_X2_init : GoodIn wsX8_init (wsX2_init) := ggX8_init_X2_init
set_option maxRecDepth 20000 in
theorem ggX8_init_X6_init : GoodIn wsX8_init wsX6_init := goodIn_r _ [54, 55, 2, 3, 56, 57, 58, 59, 60, 77, 78, 79, 80] (by decide +kernel) (by decide +kernel)
set_option maxRecDepth 20000 in
theorem gX8_init_X6_init : GoodIn wsX8_init (wsX6_init) := ggX8_init_X6_init
set_option maxRecDepth 20000 in
theorem ggX8_path_X5_append : GoodIn wsX8_path wsX5_append := goodIn_r _ [6, 7, 8, 16, 17] (by decide +kernel) (by decide +kernel)
set_option maxRecDepth 20000 in
theorem gX8_path_X5_append : GoodIn wsX8_path (wsV RX8 52 RX5 yX5_append wsX5_append) := goodIn_app (goodIn_of _ (by decide +kernel)) ggX8_path_X5_append
set_option maxRecDepth 20000 in
theorem ggX8_octet_X5_append : GoodIn wsX8_octet wsX5_append := goodIn_r _ [6, 7, 8, 16, 17] (by decide +kernel) (by decide +kernel)
set_option maxRecDepth 20000 in
theorem gX8_octet_X5_append : GoodIn wsX8_octet (wsV RX8 52 RX5 yX5_append wsX5_append) := goodIn_app (goodIn_of _ (by decide +kernel)) ggX8_octet_X5_append
set_option maxRecDepth 20000 in
theorem ggX8_file_X0_takeFile : GoodIn wsX8_file wsX0_takeFile := goodIn_r _ [8, 9, 10, 11, 12, 13, 14, 15, 16, 17, 18, 19, 20, 21, 22, 23, 24, 25, 26, 27, 28, 29, 30, 31, 32, 33, 34, 35, 36, 37, 38, 39, 40, 41, 42, 43, 44, 45, 46, 47, 48, 49, 50, 51, 52, 53, 54, 55, 56, 57, 58, 59, 60, 61, 62, 63, 64, 65, 66, 67, 68, 69, 70, 71, 72, 84, 85, 86, 87, 88, 89, 90, 91, 92, 93] (by decide +kernel) (by decide +kernel)
set_option maxRecDepth 20000 in
theorem gX8_file_X0_takeFile : GoodIn wsX8_file (wsV RX8 55 RX0 yX0_takeFile wsX0_takeFile) := goodIn_app (goodIn_of _ (by decide +kernel)) ggX8_file_X0_takeFile
set_option maxRecDepth 20000 in
theorem ggX8_file_X5_clear : GoodIn wsX8_file wsX5_clear := goodIn_r _ [76, 23, 92, 93] (by decide +kernel) (by decide +kernel)
set_option maxRecDepth 20000 in
theorem gX8_file_X5_clear : GoodIn wsX8_file (wsV RX8 59 RX5 yX5_clear wsX5_clear) := goodIn_app (goodIn_of _ (by decide +kernel)) ggX8_file_X5_clear
set_option maxRecDepth 20000 in
theorem ggX8_line_X0_takeLine : GoodIn wsX8_line wsX0_takeLine := goodIn_r _ [7, 8, 9, 10, 11, 12, 13, 14, 15, 16, 17, 18, 19, 20, 21, 22, 23, 24, 25, 26, 27, 28, 29, 30, 31, 32, 33, 34, 35, 36, 37, 38, 39, 40, 41, 42, 43, 44, 45, 46, 47, 48, 49, 50, 51, 52, 53, 54, 55, 56, 57, 58, 59, 60, 61, 62, 63, 64, 65, 77, 78, 79, 80, 81, 82, 83, 84, 85] (by decide +kernel) (by decide +kernel)
set_option maxRecDepth 20000 in
theorem gX8_line_X0_takeLine : GoodIn wsX8_line (wsV RX8 62 RX0 yX0_takeLine wsX0_takeLine) := goodIn_app (goodIn_of _ (by decide +kernel)) ggX8_line_X0_takeLine
set_option maxRecDepth 20000 in
theorem ggX8_line_X5_clear : GoodIn wsX8_line wsX5_clear := goodIn_r _ [69, 22, 84, 85] (by decide +kernel) (by decide +kernel)
set_option maxRecDepth 20000 in
theorem gX8_line_X5_clear : GoodIn wsX8_line (wsV RX8 59 RX5 yX5_clear wsX5_clear) := goodIn_app (goodIn_of _ (by decide +kernel)) ggX8_line_X5_clear
set_option maxRecDepth 20000 in
theorem ggX8_sum_X5_sumOfBytes : GoodIn wsX8_sum wsX5_sumOfBytes := goodIn_r _ [6, 7, 8, 9, 17, 18] (by decide +kernel) (by decide +kernel)
set_option maxRecDepth 20000 in
theorem gX8_sum_X5_sumOfBytes : GoodIn wsX8_sum (wsV RX8 66 RX5 yX5_sumOfBytes wsX5_sumOfBytes) := goodIn_app (goodIn_of _ (by decide +kernel)) ggX8_sum_X5_sumOfBytes
set_option maxRecDepth 20000 in
theorem ggX8_check_X0_tellFaults : GoodIn wsX8_check wsX0_tellFaults := goodIn_r _ [7, 8, 9, 10, 11, 12, 13, 14, 15, 16, 17, 18, 6, 19, 20, 21, 22, 23, 24, 25, 26, 27, 28, 29, 30, 31, 32, 33, 34, 35, 36, 37, 38, 39, 40, 41, 42, 43, 44, 45, 46, 47, 48, 49, 50, 51, 52, 53, 54, 55, 56, 57, 58, 59, 60, 72, 73, 74, 75, 76, 77, 78, 79, 80, 81, 82, 83, 84, 85, 86, 87] (by decide +kernel) (by decide +kernel)
set_option maxRecDepth 20000 in
theorem gX8_check_X0_tellFaults : GoodIn wsX8_check (wsV RX8 70 RX0 yX0_tellFaults wsX0_tellFaults) := goodIn_app (goodIn_of _ (by decide +kernel)) ggX8_check_X0_tellFaults
set_option maxRecDepth 20000 in
theorem ggX8_check_X2_size : GoodIn wsX8_check wsX2_size := goodIn_r _ [64, 15, 76, 77, 78] (by decide +kernel) (by decide +kernel)
set_option maxRecDepth 20000 in
theorem gX8_check_X2_size : GoodIn wsX8_check (wsV RX8 74 RX2 yX2_size wsX2_size) := goodIn_app (goodIn_of _ (by decide +kernel)) ggX8_check_X2_size
set_option maxRecDepth 20000 in
theorem ggX8_fault_X2_has : GoodIn wsX8_fault wsX2_has := goodIn_r _ [8, 9, 28, 29, 30] (by decide +kernel) (by decide +kernel)
set_option maxRecDepth 20000 in
theorem gX8_fault_X2_has : GoodIn wsX8_fault (wsV RX8 77 RX2 yX2_has wsX2_has) := goodIn_app (goodIn_of _ (by decide +kernel)) ggX8_fault_X2_has
set_option maxRecDepth 20000 in
theorem ggX8_fault_X2_kindOf : GoodIn wsX8_fault wsX2_kindOf := goodIn_r _ [13, 14, 15, 5, 6, 7, 8, 9, 28, 29, 30] (by decide +kernel) (by decide +kernel)
set_option maxRecDepth 20000 in
theorem gX8_fault_X2_kindOf : GoodIn wsX8_fault (wsV RX8 84 RX2 yX2_kindOf wsX2_kindOf) := goodIn_app (goodIn_of _ (by decide +kernel)) ggX8_fault_X2_kindOf
set_option maxRecDepth 20000 in
theorem ggX8_fault_X2_numberOf : GoodIn wsX8_fault wsX2_numberOf := goodIn_r _ [19, 20, 15, 5, 6, 7, 8, 9, 28, 29, 30] (by decide +kernel) (by decide +kernel)
set_option maxRecDepth 20000 in
theorem gX8_fault_X2_numberOf : GoodIn wsX8_fault (wsV RX8 88 RX2 yX2_numberOf wsX2_numberOf) := goodIn_app (goodIn_of _ (by decide +kernel)) ggX8_fault_X2_numberOf
set_option maxRecDepth 20000 in
theorem ggX8_accept_X0_tellFaults : GoodIn wsX8_accept wsX0_tellFaults := goodIn_r _ [9, 10, 11, 12, 13, 14, 15, 16, 17, 18, 19, 20, 8, 21, 22, 23, 24, 25, 26, 27, 28, 29, 30, 31, 32, 33, 34, 35, 36, 37, 38, 39, 40, 41, 42, 43, 44, 45, 46, 47, 48, 49, 50, 51, 52, 53, 54, 55, 56, 57, 58, 59, 60, 61, 62, 126, 127, 128, 129, 130, 131, 132, 133, 134, 135, 136, 137, 138, 139, 140, 141] (by decide +kernel) (by decide +kernel)
set_option maxRecDepth 20000 in
theorem gX8_accept_X0_tellFaults : GoodIn wsX8_accept (wsV RX8 70 RX0 yX0_tellFaults wsX0_tellFaults) := goodIn_app (goodIn_of _ (by decide +kernel)) ggX8_accept_X0_tellFaults
set_option maxRecDepth 20000 in
theorem ggX8_accept_X2_size : GoodIn wsX8_accept wsX2_size := goodIn_r _ [66, 17, 130, 131, 132] (by decide +kernel) (by decide +kernel)
set_option maxRecDepth 20000 in
theorem gX8_accept_X2_size : GoodIn wsX8_accept (wsV RX8 74 RX2 yX2_size wsX2_size) := goodIn_app (goodIn_of _ (by decide +kernel)) ggX8_accept_X2_size
set_option maxRecDepth 20000 in
theorem ggX8_accept_X0_fileCount : GoodIn wsX8_accept wsX0_fileCount := goodIn_r _ [70, 11, 126, 127, 128, 129] (by decide +kernel) (by decide +kernel)
set_option maxRecDepth 20000 in
theorem gX8_accept_X0_fileCount : GoodIn wsX8_accept (wsV RX8 91 RX0 yX0_fileCount wsX0_fileCount) := goodIn_app (goodIn_of _ (by decide +kernel)) ggX8_accept_X0_fileCount
set_option maxRecDepth 20000 in
theorem ggX8_accept_X8_versionOrNull : GoodIn wsX8_accept wsX8_versionOrNull := goodIn_r _ [75, 3, 4, 119, 120, 121, 122, 123, 124, 125] (by decide +kernel) (by decide +kernel)
set_option maxRecDepth 20000 in
theorem gX8_accept_X8_versionOrNull : GoodIn wsX8_accept (wsV RX8 94 RX8 yX8_versionOrNull wsX8_versionOrNull) := goodIn_app (goodIn_of _ (by decide +kernel)) ggX8_accept_X8_versionOrNull
set_option maxRecDepth 20000 in
theorem ggX8_accept_X0_toVersion : GoodIn wsX8_accept wsX0_toVersion := goodIn_r _ [79, 80, 81, 82, 11, 24, 83, 84, 85, 86, 87, 88, 89, 90, 91, 92, 93, 8, 94, 48, 25, 95, 96, 97, 98, 99, 100, 101, 102, 103, 104, 105, 34, 35, 36, 37, 38, 39, 40, 41, 42, 43, 106, 107, 108, 109, 33, 110, 111, 112, 113, 114, 142, 143, 126, 127, 128, 129, 136, 137, 138, 139, 140, 141] (by decide +kernel) (by decide +kernel)
set_option maxRecDepth 20000 in
theorem gX8_accept_X0_toVersion : GoodIn wsX8_accept (wsV RX8 98 RX0 yX0_toVersion wsX0_toVersion) := goodIn_app (goodIn_of _ (by decide +kernel)) ggX8_accept_X0_toVersion
set_option maxRecDepth 20000 in
theorem ggX8_accept_X0_clear : GoodIn wsX8_accept wsX0_clear := goodIn_r _ [118, 11, 10, 126, 127, 128, 129] (by decide +kernel) (by decide +kernel)
set_option maxRecDepth 20000 in
theorem gX8_accept_X0_clear : GoodIn wsX8_accept (wsV RX8 102 RX0 yX0_clear wsX0_clear) := goodIn_app (goodIn_of _ (by decide +kernel)) ggX8_accept_X0_clear
set_option maxRecDepth 20000 in
theorem ggX8_drop_X0_fileCount : GoodIn wsX8_drop wsX0_fileCount := goodIn_r _ [6, 7, 24, 25, 26, 27] (by decide +kernel) (by decide +kernel)
set_option maxRecDepth 20000 in
theorem gX8_drop_X0_fileCount : GoodIn wsX8_drop (wsV RX8 91 RX0 yX0_fileCount wsX0_fileCount) := goodIn_app (goodIn_of _ (by decide +kernel)) ggX8_drop_X0_fileCount
set_option maxRecDepth 20000 in
theorem ggX8_drop_X0_lineCount : GoodIn wsX8_drop wsX0_lineCount := goodIn_r _ [11, 12, 24, 25, 26, 27] (by decide +kernel) (by decide +kernel)
set_option maxRecDepth 20000 in
theorem gX8_drop_X0_lineCount : GoodIn wsX8_drop (wsV RX8 103 RX0 yX0_lineCount wsX0_lineCount) := goodIn_app (goodIn_of _ (by decide +kernel)) ggX8_drop_X0_lineCount
set_option maxRecDepth 20000 in
theorem ggX8_drop_X0_clear : GoodIn wsX8_drop wsX0_clear := goodIn_r _ [16, 7, 12, 24, 25, 26, 27] (by decide +kernel) (by decide +kernel)
set_option maxRecDepth 20000 in
theorem gX8_drop_X0_clear : GoodIn wsX8_drop (wsV RX8 102 RX0 yX0_clear wsX0_clear) := goodIn_app (goodIn_of _ (by decide +kernel)) ggX8_drop_X0_clear
set_option maxRecDepth 20000 in
theorem ggX8_files_X8_versionOrNull : GoodIn wsX8_files wsX8_versionOrNull := goodIn_r _ [5, 6, 7, 14, 15, 16, 17, 18, 19, 20] (by decide +kernel) (by decide +kernel)
set_option maxRecDepth 20000 in
theorem gX8_files_X8_versionOrNull : GoodIn wsX8_files (wsV RX8 94 RX8 yX8_versionOrNull wsX8_versionOrNull) := goodIn_app (goodIn_of _ (by decide +kernel)) ggX8_files_X8_versionOrNull
set_option maxRecDepth 20000 in
theorem ggX8_files_X7_size : GoodIn wsX8_files wsX7_size := goodIn_r _ [12, 13, 21, 22] (by decide +kernel) (by decide +kernel)
set_option maxRecDepth 20000 in
theorem gX8_files_X7_size : GoodIn wsX8_files (wsV RX8 106 RX7 yX7_size wsX7_size) := goodIn_app (goodIn_of _ (by decide +kernel)) ggX8_files_X7_size
set_option maxRecDepth 20000 in
theorem ggX8_about_X8_entryOrNull : GoodIn wsX8_about wsX8_entryOrNull := goodIn_r _ [9, 10, 11, 12, 8, 13, 14, 15, 16, 17, 18, 19, 20, 21, 22, 33, 34, 35, 36, 37, 38, 39, 40, 41] (by decide +kernel) (by decide +kernel)
set_option maxRecDepth 20000 in
theorem gX8_about_X8_entryOrNull : GoodIn wsX8_about (wsV RX8 107 RX8 yX8_entryOrNull wsX8_entryOrNull) := goodIn_app (goodIn_of _ (by decide +kernel)) ggX8_about_X8_entryOrNull
set_option maxRecDepth 20000 in
theorem ggX8_about_X5_size : GoodIn wsX8_about wsX5_size := goodIn_r _ [27, 28, 42, 43] (by decide +kernel) (by decide +kernel)
set_option maxRecDepth 20000 in
theorem gX8_about_X5_size : GoodIn wsX8_about (wsV RX8 116 RX5 yX5_size wsX5_size) := goodIn_app (goodIn_of _ (by decide +kernel)) ggX8_about_X5_size
set_option maxRecDepth 20000 in
theorem ggX8_sign_X8_entryOrNull : GoodIn wsX8_sign wsX8_entryOrNull := goodIn_r _ [6, 7, 8, 9, 5, 10, 11, 12, 13, 14, 15, 16, 17, 18, 19, 35, 36, 37, 38, 39, 40, 41, 42, 43] (by decide +kernel) (by decide +kernel)
set_option maxRecDepth 20000 in
theorem gX8_sign_X8_entryOrNull : GoodIn wsX8_sign (wsV RX8 107 RX8 yX8_entryOrNull wsX8_entryOrNull) := goodIn_app (goodIn_of _ (by decide +kernel)) ggX8_sign_X8_entryOrNull
set_option maxRecDepth 20000 in
theorem ggX8_sign_X5_cell : GoodIn wsX8_sign wsX5_cell := goodIn_r _ [24, 25, 26, 27, 28, 23, 29, 30, 44, 45] (by decide +kernel) (by decide +kernel)
set_option maxRecDepth 20000 in
theorem gX8_sign_X5_cell : GoodIn wsX8_sign (wsV RX8 126 RX5 yX5_cell wsX5_cell) := goodIn_app (goodIn_of _ (by decide +kernel)) ggX8_sign_X5_cell
set_option maxRecDepth 20000 in
theorem ggX8_at_X8_entryOrNull : GoodIn wsX8_at wsX8_entryOrNull := goodIn_r _ [9, 10, 11, 12, 8, 13, 14, 15, 16, 17, 18, 19, 20, 21, 22, 45, 46, 47, 48, 49, 50, 51, 52, 53] (by decide +kernel) (by decide +kernel)
set_option maxRecDepth 20000 in
theorem gX8_at_X8_entryOrNull : GoodIn wsX8_at (wsV RX8 107 RX8 yX8_entryOrNull wsX8_entryOrNull) := goodIn_app (goodIn_of _ (by decide +kernel)) ggX8_at_X8_entryOrNull
set_option maxRecDepth 20000 in
theorem ggX8_at_X5_has : GoodIn wsX8_at wsX5_has := goodIn_r _ [27, 28, 54, 55] (by decide +kernel) (by decide +kernel)
set_option maxRecDepth 20000 in
theorem gX8_at_X5_has : GoodIn wsX8_at (wsV RX8 129 RX5 yX5_has wsX5_has) := goodIn_app (goodIn_of _ (by decide +kernel)) ggX8_at_X5_has
set_option maxRecDepth 20000 in
theorem ggX8_at_X5_cell : GoodIn wsX8_at wsX5_cell := goodIn_r _ [32, 33, 34, 24, 25, 26, 27, 28, 54, 55] (by decide +kernel) (by decide +kernel)
set_option maxRecDepth 20000 in
theorem gX8_at_X5_cell : GoodIn wsX8_at (wsV RX8 126 RX5 yX5_cell wsX5_cell) := goodIn_app (goodIn_of _ (by decide +kernel)) ggX8_at_X5_cell
set_option maxRecDepth 20000 in
theorem ggX8_find_X8_versionOrNull : GoodIn wsX8_find wsX8_versionOrNull := goodIn_r _ [6, 7, 8, 28, 29, 30, 31, 32, 33, 34] (by decide +kernel) (by decide +kernel)
set_option maxRecDepth 20000 in
theorem gX8_find_X8_versionOrNull : GoodIn wsX8_find (wsV RX8 94 RX8 yX8_versionOrNull wsX8_versionOrNull) := goodIn_app (goodIn_of _ (by decide +kernel)) ggX8_find_X8_versionOrNull
set_option maxRecDepth 20000 in
theorem ggX8_find_X7_placeOf : GoodIn wsX8_find wsX7_placeOf := goodIn_r _ [13, 14, 15, 16, 17, 18, 19, 20, 21, 22, 23, 24, 25, 26, 27, 35, 36, 37, 38, 39, 40, 41, 42] (by decide +kernel) (by decide +kernel)
set_option maxRecDepth 20000 in
theorem gX8_find_X7_placeOf : GoodIn wsX8_find (wsV RX8 133 RX7 yX7_placeOf wsX7_placeOf) := goodIn_app (goodIn_of _ (by decide +kernel)) ggX8_find_X7_placeOf
set_option maxRecDepth 20000 in
theorem ggX8_same_X8_versionOrNull : GoodIn wsX8_same wsX8_versionOrNull := goodIn_r _ [5, 6, 7, 40, 41, 42, 43, 44, 45, 46] (by decide +kernel) (by decide +kernel)
set_option maxRecDepth 20000 in
theorem gX8_same_X8_versionOrNull : GoodIn wsX8_same (wsV RX8 94 RX8 yX8_versionOrNull wsX8_versionOrNull) := goodIn_app (goodIn_of _ (by decide +kernel)) ggX8_same_X8_versionOrNull
set_option maxRecDepth 20000 in
theorem ggX8_same_X7_countAlike : GoodIn wsX8_same wsX7_countAlike := goodIn_r _ [12, 13, 14, 15, 16, 17, 18, 19, 11, 20, 21, 22, 23, 24, 25, 26, 27, 28, 29, 30, 31, 32, 33, 34, 35, 36, 37, 38, 39, 47, 48, 49, 50, 51, 52, 53, 54] (by decide +kernel) (by decide +kernel)
set_option maxRecDepth 20000 in
theorem gX8_same_X7_countAlike : GoodIn wsX8_same (wsV RX8 137 RX7 yX7_countAlike wsX7_countAlike) := goodIn_app (goodIn_of _ (by decide +kernel)) ggX8_same_X7_countAlike
set_option maxRecDepth 20000 in
theorem ggX8_split_X8_versionOrNull : GoodIn wsX8_split wsX8_versionOrNull := goodIn_r _ [6, 7, 8, 36, 37, 38, 39, 40, 41, 42] (by decide +kernel) (by decide +kernel)
set_option maxRecDepth 20000 in
theorem gX8_split_X8_versionOrNull : GoodIn wsX8_split (wsV RX8 94 RX8 yX8_versionOrNull wsX8_versionOrNull) := goodIn_app (goodIn_of _ (by decide +kernel)) ggX8_split_X8_versionOrNull
set_option maxRecDepth 20000 in
theorem ggX8_split_X6_begin : GoodIn wsX8_split wsX6_begin := goodIn_r _ [13, 14, 15, 16, 17, 18, 19, 20, 21, 22, 23, 24, 25, 26, 27, 28, 29, 30, 31, 32, 33, 34, 35, 43, 44, 45, 46, 47, 48, 49, 50, 51, 52, 53, 54] (by decide +kernel) (by decide +kernel)
set_option maxRecDepth 20000 in
theorem gX8_split_X6_begin : GoodIn wsX8_split (wsV RX8 141 RX6 yX6_begin wsX6_begin) := goodIn_app (goodIn_of _ (by decide +kernel)) ggX8_split_X6_begin
set_option maxRecDepth 20000 in
theorem ggX8_piece_X6_take : GoodIn wsX8_piece wsX6_take := goodIn_r _ [6, 7, 8, 9, 17, 18, 19, 20] (by decide +kernel) (by decide +kernel)
set_option maxRecDepth 20000 in
theorem gX8_piece_X6_take : GoodIn wsX8_piece (wsV RX8 145 RX6 yX6_take wsX6_take) := goodIn_app (goodIn_of _ (by decide +kernel)) ggX8_piece_X6_take
set_option maxRecDepth 20000 in
theorem ggX8_missing_X6_firstMissing : GoodIn wsX8_missing wsX6_firstMissing := goodIn_r _ [6, 7, 8, 16, 17, 18, 19] (by decide +kernel) (by decide +kernel)
set_option maxRecDepth 20000 in
theorem gX8_missing_X6_firstMissing : GoodIn wsX8_missing (wsV RX8 149 RX6 yX6_firstMissing wsX6_firstMissing) := goodIn_app (goodIn_of _ (by decide +kernel)) ggX8_missing_X6_firstMissing
set_option maxRecDepth 20000 in
theorem ggX8_joined_X6_joinedByte : GoodIn wsX8_joined wsX6_joinedByte := goodIn_r _ [6, 7, 8, 9, 10, 11, 12, 13, 14, 15, 16, 17, 18, 19, 20, 21, 22, 23, 24, 25, 26, 27, 28, 29, 30, 31, 39, 40, 41, 42, 43, 44, 45, 46, 47, 48, 49, 50] (by decide +kernel) (by decide +kernel)
set_option maxRecDepth 20000 in
theorem gX8_joined_X6_joinedByte : GoodIn wsX8_joined (wsV RX8 152 RX6 yX6_joinedByte wsX6_joinedByte) := goodIn_app (goodIn_of _ (by decide +kernel)) ggX8_joined_X6_joinedByte
set_option maxRecDepth 20000 in
theorem ggX8_entryOrNull_X8_versionOrNull : GoodIn wsX8_entryOrNull wsX8_versionOrNull := goodIn_r _ [5, 6, 7, 15, 16, 17, 18, 19, 20, 21] (by decide +kernel) (by decide +kernel)
set_option maxRecDepth 20000 in
theorem gX8_entryOrNull_X8_versionOrNull : GoodIn wsX8_entryOrNull (wsV RX8 94 RX8 yX8_versionOrNull wsX8_versionOrNull) := goodIn_app (goodIn_of _ (by decide +kernel)) ggX8_entryOrNull_X8_versionOrNull
set_option maxRecDepth 20000 in
theorem ggX8_entryOrNull_X7_entryOrNull : GoodIn wsX8_entryOrNull wsX7_entryOrNull := goodIn_r _ [12, 13, 14, 22, 23] (by decide +kernel) (by decide +kernel)
set_option maxRecDepth 20000 in
theorem gX8_entryOrNull_X7_entryOrNull : GoodIn wsX8_entryOrNull (wsV RX8 155 RX7 yX7_entryOrNull wsX7_entryOrNull) := goodIn_app (goodIn_of _ (by decide +kernel)) ggX8_entryOrNull_X7_entryOrNull
set_option maxRecDepth 20000 in
theorem ggX9_isSign_X9_in : GoodIn wsX9_isSign wsX9_in := goodIn_r _ [4] (by decide +kernel) (by decide +kernel)
set_option maxRecDepth 20000 in
theorem gX9_isSign_X9_in : GoodIn wsX9_isSign (va_wsS RX9 64 yX9_in wsX9_in) := goodIn_app (goodIn_of _ (by decide +kernel)) ggX9_isSign_X9_in
set_option maxRecDepth 20000 in
theorem ggX9_isPath_X9_in : GoodIn wsX9_isPath wsX9_in := goodIn_r _ [6] (by decide +kernel) (by decide +kernel)
set_option maxRecDepth 20000 in
theorem gX9_isPath_X9_in : GoodIn wsX9_isPath (va_wsS RX9 64 yX9_in wsX9_in) := goodIn_app (goodIn_of _ (by decide +kernel)) ggX9_isPath_X9_in
set_option maxRecDepth 20000 in
theorem ggX9_isPath_X9_isSign : GoodIn wsX9_isPath wsX9_isSign := goodIn_r _ [9, 3, 4, 5, 6] (by decide +kernel) (by decide +kernel)
set_option maxRecDepth 20000 in
theorem gX9_isPath_X9_isSign : GoodIn wsX9_isPath (va_wsS RX9 68 yX9_isSign wsX9_isSign) := goodIn_app (goodIn_of _ (by decide +kernel)) ggX9_isPath_X9_isSign
set_option maxRecDepth 20000 in
theorem ggX9_file_X9_isPath : GoodIn wsX9_file wsX9_isPath := goodIn_r _ [12, 7, 13, 14, 15, 11, 16, 17, 18, 19, 26, 27, 28, 29, 30, 31, 32, 33, 34, 35, 36, 37, 38, 39, 40, 41, 42, 43, 44, 45, 46, 47, 48, 49, 50] (by decide +kernel) (by decide +kernel)
set_option maxRecDepth 20000 in
theorem gX9_file_X9_isPath : GoodIn wsX9_file (wsV RX9 72 RX9 yX9_isPath wsX9_isPath) := goodIn_app (goodIn_of _ (by decide +kernel)) ggX9_file_X9_isPath
set_option maxRecDepth 20000 in
theorem ggX9_file_X9_lay : GoodIn wsX9_file wsX9_lay := goodIn_r _ [23, 24, 7, 25, 13, 26, 27, 28, 29, 30, 31, 32, 33, 34, 35, 36, 37, 38, 39, 40, 41, 42, 43, 44, 45, 46, 47, 48, 49, 50] (by decide +kernel) (by decide +kernel)
set_option maxRecDepth 20000 in
theorem gX9_file_X9_lay : GoodIn wsX9_file (wsV RX9 79 RX9 yX9_lay wsX9_lay) := goodIn_app (goodIn_of _ (by decide +kernel)) ggX9_file_X9_lay
set_option maxRecDepth 20000 in
theorem ggX9_line_X9_isPath : GoodIn wsX9_line wsX9_isPath := goodIn_r _ [10, 5, 11, 12, 13, 9, 14, 15, 16, 17, 24, 25, 26, 27, 28, 29, 30, 31, 32, 33, 34, 35, 36, 37, 38, 39, 40, 41, 42, 43, 44, 45, 46, 47, 48] (by decide +kernel) (by decide +kernel)
set_option maxRecDepth 20000 in
theorem gX9_line_X9_isPath : GoodIn wsX9_line (wsV RX9 72 RX9 yX9_isPath wsX9_isPath) := goodIn_app (goodIn_of _ (by decide +kernel)) ggX9_line_X9_isPath
set_option maxRecDepth 20000 in
theorem ggX9_line_X9_in : GoodIn wsX9_line wsX9_in := goodIn_r _ [14] (by decide +kernel) (by decide +kernel)
set_option maxRecDepth 20000 in
theorem gX9_line_X9_in : GoodIn wsX9_line (va_wsS RX9 64 yX9_in wsX9_in) := goodIn_app (goodIn_of _ (by decide +kernel)) ggX9_line_X9_in
set_option maxRecDepth 20000 in
theorem ggX9_line_X9_lay : GoodIn wsX9_line wsX9_lay := goodIn_r _ [21, 22, 5, 23, 11, 24, 25, 26, 27, 28, 29, 30, 31, 32, 33, 34, 35, 36, 37, 38, 39, 40, 41, 42, 43, 44, 45, 46, 47, 48] (by decide +kernel) (by decide +kernel)
set_option maxRecDepth 20000 in
theorem gX9_line_X9_lay : GoodIn wsX9_line (wsV RX9 79 RX9 yX9_lay wsX9_lay) := goodIn_app (goodIn_of _ (by decide +kernel)) ggX9_line_X9_lay
set_option maxRecDepth 20000 in
theorem ggX9_first_X9_order : GoodIn wsX9_first wsX9_order := goodIn_r _ [5, 6, 7, 8, 9, 10, 11, 12, 13, 14, 15, 16, 17, 18, 19, 20, 21, 22, 23, 24, 25, 26, 27, 28, 29, 30, 31, 32] (by decide +kernel) (by decide +kernel)
set_option maxRecDepth 20000 in
theorem gX9_first_X9_order : GoodIn wsX9_first (wsV RX9 87 RX9 yX9_order wsX9_order) := goodIn_app (goodIn_of _ (by decide +kernel)) ggX9_first_X9_order
set_option maxRecDepth 20000 in
theorem ggX9_lineFault_X9_first : GoodIn wsX9_lineFault wsX9_first := goodIn_r _ [9, 10, 11, 12, 8, 13, 14, 15, 22, 23, 24, 25, 26, 27, 28, 29, 30, 31, 32, 33, 34, 35, 36, 37, 38, 39, 40, 41, 42, 43, 44, 45, 46] (by decide +kernel) (by decide +kernel)
set_option maxRecDepth 20000 in
theorem gX9_lineFault_X9_first : GoodIn wsX9_lineFault (wsV RX9 91 RX9 yX9_first wsX9_first) := goodIn_app (goodIn_of _ (by decide +kernel)) ggX9_lineFault_X9_first
set_option maxRecDepth 20000 in
theorem ggX9_lineFault_X9_sumOf : GoodIn wsX9_lineFault wsX9_sumOf := goodIn_r _ [19, 2, 20, 21, 22, 23, 24, 25, 26, 27, 28, 29, 30, 31, 32, 33, 34, 35, 36, 37, 38, 39, 40, 41, 42, 43, 44, 45, 46] (by decide +kernel) (by decide +kernel)
set_option maxRecDepth 20000 in
theorem gX9_lineFault_X9_sumOf : GoodIn wsX9_lineFault (wsV RX9 95 RX9 yX9_sumOf wsX9_sumOf) := goodIn_app (goodIn_of _ (by decide +kernel)) ggX9_lineFault_X9_sumOf
set_option maxRecDepth 20000 in
theorem ggX9_fileFault_X9_first : GoodIn wsX9_fileFault wsX9_first := goodIn_r _ [6, 7, 8, 9, 5, 10, 11, 12, 13, 14, 15, 16, 17, 18, 19, 20, 21, 22, 23, 24, 25, 26, 27, 28, 29, 30, 31, 32, 33, 34, 35, 36, 37] (by decide +kernel) (by decide +kernel)
set_option maxRecDepth 20000 in
theorem gX9_fileFault_X9_first : GoodIn wsX9_fileFault (wsV RX9 91 RX9 yX9_first wsX9_first) := goodIn_app (goodIn_of _ (by decide +kernel)) ggX9_fileFault_X9_first
set_option maxRecDepth 20000 in
theorem ggX9_check_X9_lineFault : GoodIn wsX9_check wsX9_lineFault := goodIn_r _ [9, 4, 10, 11, 12, 13, 14, 15, 8, 16, 17, 18, 19, 20, 21, 22, 23, 24, 25, 26, 27, 28, 39, 40, 41, 42, 43, 44, 45, 46, 47, 48, 49, 50, 51, 52, 53, 54, 55, 56, 57, 58, 59, 60, 61, 62, 63] (by decide +kernel) (by decide +kernel)
set_option maxRecDepth 20000 in
theorem gX9_check_X9_lineFault : GoodIn wsX9_check (wsV RX9 102 RX9 yX9_lineFault wsX9_lineFault) := goodIn_app (goodIn_of _ (by decide +kernel)) ggX9_check_X9_lineFault
set_option maxRecDepth 20000 in
theorem ggX9_check_X9_blame : GoodIn wsX9_check wsX9_blame := goodIn_r _ [32, 33, 2, 34, 39, 40, 41, 42, 43, 44, 45, 46, 47, 48, 49, 50, 51, 52, 53, 54, 55, 56, 57, 58, 59, 60, 61, 62, 63] (by decide +kernel) (by decide +kernel)
set_option maxRecDepth 20000 in
theorem gX9_check_X9_blame : GoodIn wsX9_check (wsV RX9 105 RX9 yX9_blame wsX9_blame) := goodIn_app (goodIn_of _ (by decide +kernel)) ggX9_check_X9_blame
set_option maxRecDepth 20000 in
theorem ggX9_check_X9_fileFault : GoodIn wsX9_check wsX9_fileFault := goodIn_r _ [38, 3, 13, 14, 15, 8, 16, 17, 18, 19, 20, 21, 22, 39, 40, 41, 42, 43, 44, 45, 46, 47, 48, 49, 50, 51, 52, 53, 54, 55, 56, 57, 58, 59, 60, 61, 62, 63] (by decide +kernel) (by decide +kernel)
set_option maxRecDepth 20000 in
theorem gX9_check_X9_fileFault : GoodIn wsX9_check (wsV RX9 109 RX9 yX9_fileFault wsX9_fileFault) := goodIn_app (goodIn_of _ (by decide +kernel)) ggX9_check_X9_fileFault
set_option maxRecDepth 20000 in
theorem ggX9_fault_X9_in : GoodIn wsX9_fault wsX9_in := goodIn_r _ [8] (by decide +kernel) (by decide +kernel)
set_option maxRecDepth 20000 in
theorem gX9_fault_X9_in : GoodIn wsX9_fault (va_wsS RX9 64 yX9_in wsX9_in) := goodIn_app (goodIn_of _ (by decide +kernel)) ggX9_fault_X9_in
set_option maxRecDepth 20000 in
theorem ggX9_accept_X9_check : GoodIn wsX9_accept wsX9_check := goodIn_r _ [10, 11, 12, 5, 2, 13, 14, 15, 9, 16, 17, 18, 19, 20, 21, 22, 23, 24, 25, 26, 27, 28, 29, 30, 31, 32, 33, 34, 35, 36, 37, 38, 39, 40, 41, 42, 43, 44, 45, 54, 55, 56, 57, 58, 59, 60, 61, 62, 63, 64, 65, 66, 67, 68, 69, 70, 71, 72, 73, 74, 75, 76, 77, 78] (by decide +kernel) (by decide +kernel)
set_option maxRecDepth 20000 in
theorem gX9_accept_X9_check : GoodIn wsX9_accept (wsV RX9 112 RX9 yX9_check wsX9_check) := goodIn_app (goodIn_of _ (by decide +kernel)) ggX9_accept_X9_check
set_option maxRecDepth 20000 in
theorem ggX9_accept_X9_order : GoodIn wsX9_accept wsX9_order := goodIn_r _ [27, 28, 29, 54, 55, 56, 57, 58, 59, 60, 61, 62, 63, 64, 65, 66, 67, 68, 69, 70, 71, 72, 73, 74, 75, 76, 77, 78] (by decide +kernel) (by decide +kernel)
set_option maxRecDepth 20000 in
theorem gX9_accept_X9_order : GoodIn wsX9_accept (wsV RX9 87 RX9 yX9_order wsX9_order) := goodIn_app (goodIn_of _ (by decide +kernel)) ggX9_accept_X9_order
set_option maxRecDepth 20000 in
theorem ggX9_accept_X9_copy : GoodIn wsX9_accept wsX9_copy := goodIn_r _ [49, 28, 29, 17, 35, 54, 55, 56, 57, 58, 59, 60, 61, 62, 63, 64, 65, 66, 67, 68, 69, 70, 71, 72, 73, 74, 75, 76, 77, 78] (by decide +kernel) (by decide +kernel)
set_option maxRecDepth 20000 in
theorem gX9_accept_X9_copy : GoodIn wsX9_accept (wsV RX9 119 RX9 yX9_copy wsX9_copy) := goodIn_app (goodIn_of _ (by decide +kernel)) ggX9_accept_X9_copy
set_option maxRecDepth 20000 in
theorem ggX9_accept_X9_first : GoodIn wsX9_accept wsX9_first := goodIn_r _ [23, 24, 25, 26, 9, 27, 28, 29, 54, 55, 56, 57, 58, 59, 60, 61, 62, 63, 64, 65, 66, 67, 68, 69, 70, 71, 72, 73, 74, 75, 76, 77, 78] (by decide +kernel) (by decide +kernel)
set_option maxRecDepth 20000 in
theorem gX9_accept_X9_first : GoodIn wsX9_accept (wsV RX9 91 RX9 yX9_first wsX9_first) := goodIn_app (goodIn_of _ (by decide +kernel)) ggX9_accept_X9_first
set_option maxRecDepth 20000 in
theorem ggX9_accept_X9_alike : GoodIn wsX9_accept wsX9_alike := goodIn_r _ [53, 17, 35, 54, 55, 56, 57, 58, 59, 60, 61, 62, 63, 64, 65, 66, 67, 68, 69, 70, 71, 72, 73, 74, 75, 76, 77, 78] (by decide +kernel) (by decide +kernel)
set_option maxRecDepth 20000 in
theorem gX9_accept_X9_alike : GoodIn wsX9_accept (wsV RX9 122 RX9 yX9_alike wsX9_alike) := goodIn_app (goodIn_of _ (by decide +kernel)) ggX9_accept_X9_alike
set_option maxRecDepth 20000 in
theorem ggX9_isVersion_X9_in : GoodIn wsX9_isVersion wsX9_in := goodIn_r _ [5] (by decide +kernel) (by decide +kernel)
set_option maxRecDepth 20000 in
theorem gX9_isVersion_X9_in : GoodIn wsX9_isVersion (va_wsS RX9 64 yX9_in wsX9_in) := goodIn_app (goodIn_of _ (by decide +kernel)) ggX9_isVersion_X9_in
set_option maxRecDepth 20000 in
theorem ggX9_files_X9_isVersion : GoodIn wsX9_files wsX9_isVersion := goodIn_r _ [7, 8, 9, 10, 6, 11, 12, 13, 14, 15, 16, 17, 18, 19, 20, 21, 22, 23, 24, 25, 26, 27, 28, 29, 30, 31, 32, 33, 34, 35, 36] (by decide +kernel) (by decide +kernel)
set_option maxRecDepth 20000 in
theorem gX9_files_X9_isVersion : GoodIn wsX9_files (wsV RX9 126 RX9 yX9_isVersion wsX9_isVersion) := goodIn_app (goodIn_of _ (by decide +kernel)) ggX9_files_X9_isVersion
set_option maxRecDepth 20000 in
theorem ggX9_isFile_X9_isVersion : GoodIn wsX9_isFile wsX9_isVersion := goodIn_r _ [6, 7, 8, 9, 5, 10, 11, 12, 13, 14, 15, 16, 17, 18, 19, 20, 21, 22, 23, 24, 25, 26, 27, 28, 29, 30, 31, 32, 33, 34, 35] (by decide +kernel) (by decide +kernel)
set_option maxRecDepth 20000 in
theorem gX9_isFile_X9_isVersion : GoodIn wsX9_isFile (wsV RX9 126 RX9 yX9_isVersion wsX9_isVersion) := goodIn_app (goodIn_of _ (by decide +kernel)) ggX9_isFile_X9_isVersion
set_option maxRecDepth 20000 in
theorem ggX9_isFile_X9_in : GoodIn wsX9_isFile wsX9_in := goodIn_r _ [10] (by decide +kernel) (by decide +kernel)
set_option maxRecDepth 20000 in
theorem gX9_isFile_X9_in : GoodIn wsX9_isFile (va_wsS RX9 64 yX9_in wsX9_in) := goodIn_app (goodIn_of _ (by decide +kernel)) ggX9_isFile_X9_in
set_option maxRecDepth 20000 in
theorem ggX9_about_X9_isFile : GoodIn wsX9_about wsX9_isFile := goodIn_r _ [9, 10, 11, 12, 13, 8, 14, 15, 16, 17, 18, 25, 26, 27, 28, 29, 30, 31, 32, 33, 34, 35, 36, 37, 38, 39, 40, 41, 42, 43, 44, 45, 46, 47, 48, 49] (by decide +kernel) (by decide +kernel)
set_option maxRecDepth 20000 in
theorem gX9_about_X9_isFile : GoodIn wsX9_about (wsV RX9 129 RX9 yX9_isFile wsX9_isFile) := goodIn_app (goodIn_of _ (by decide +kernel)) ggX9_about_X9_isFile
set_option maxRecDepth 20000 in
theorem ggX9_about_X9_sumOf : GoodIn wsX9_about wsX9_sumOf := goodIn_r _ [22, 2, 23, 24, 25, 26, 27, 28, 29, 30, 31, 32, 33, 34, 35, 36, 37, 38, 39, 40, 41, 42, 43, 44, 45, 46, 47, 48, 49] (by decide +kernel) (by decide +kernel)
set_option maxRecDepth 20000 in
theorem gX9_about_X9_sumOf : GoodIn wsX9_about (wsV RX9 95 RX9 yX9_sumOf wsX9_sumOf) := goodIn_app (goodIn_of _ (by decide +kernel)) ggX9_about_X9_sumOf
set_option maxRecDepth 20000 in
theorem ggX9_sign_X9_isFile : GoodIn wsX9_sign wsX9_isFile := goodIn_r _ [8, 9, 10, 11, 12, 7, 13, 14, 15, 16, 17, 18, 19, 20, 21, 22, 23, 24, 25, 26, 27, 28, 29, 30, 31, 32, 33, 34, 35, 36, 37, 38, 39, 40, 41, 42] (by decide +kernel) (by decide +kernel)
set_option maxRecDepth 20000 in
theorem gX9_sign_X9_isFile : GoodIn wsX9_sign (wsV RX9 129 RX9 yX9_isFile wsX9_isFile) := goodIn_app (goodIn_of _ (by decide +kernel)) ggX9_sign_X9_isFile
set_option maxRecDepth 20000 in
theorem ggX9_sign_X9_in : GoodIn wsX9_sign wsX9_in := goodIn_r _ [17] (by decide +kernel) (by decide +kernel)
set_option maxRecDepth 20000 in
theorem gX9_sign_X9_in : GoodIn wsX9_sign (va_wsS RX9 64 yX9_in wsX9_in) := goodIn_app (goodIn_of _ (by decide +kernel)) ggX9_sign_X9_in
set_option maxRecDepth 20000 in
theorem ggX9_at_X9_isFile : GoodIn wsX9_at wsX9_isFile := goodIn_r _ [8, 9, 10, 11, 12, 7, 13, 14, 15, 16, 17, 18, 19, 20, 21, 22, 23, 24, 25, 26, 27, 28, 29, 30, 31, 32, 33, 34, 35, 36, 37, 38, 39, 40, 41, 42] (by decide +kernel) (by decide +kernel)
set_option maxRecDepth 20000 in
theorem gX9_at_X9_isFile : GoodIn wsX9_at (wsV RX9 129 RX9 yX9_isFile wsX9_isFile) := goodIn_app (goodIn_of _ (by decide +kernel)) ggX9_at_X9_isFile
set_option maxRecDepth 20000 in
theorem ggX9_at_X9_in : GoodIn wsX9_at wsX9_in := goodIn_r _ [17] (by decide +kernel) (by decide +kernel)
set_option maxRecDepth 20000 in
theorem gX9_at_X9_in : GoodIn wsX9_at (va_wsS RX9 64 yX9_in wsX9_in) := goodIn_app (goodIn_of _ (by decide +kernel)) ggX9_at_X9_in
set_option maxRecDepth 20000 in
theorem ggX9_find_X9_isVersion : GoodIn wsX9_find wsX9_isVersion := goodIn_r _ [11, 12, 13, 14, 10, 15, 16, 17, 18, 19, 20, 21, 22, 23, 24, 25, 26, 27, 28, 29, 30, 31, 32, 33, 34, 35, 36, 37, 38, 39, 40] (by decide +kernel) (by decide +kernel)
set_option maxRecDepth 20000 in
theorem gX9_find_X9_isVersion : GoodIn wsX9_find (wsV RX9 126 RX9 yX9_isVersion wsX9_isVersion) := goodIn_app (goodIn_of _ (by decide +kernel)) ggX9_find_X9_isVersion
set_option maxRecDepth 20000 in
theorem ggX9_same_X9_isVersion : GoodIn wsX9_same wsX9_isVersion := goodIn_r _ [7, 8, 9, 10, 6, 11, 28, 29, 30, 31, 32, 33, 34, 35, 36, 37, 38, 39, 40, 41, 42, 43, 44, 45, 46, 47, 48, 49, 50, 51, 52] (by decide +kernel) (by decide +kernel)
set_option maxRecDepth 20000 in
theorem gX9_same_X9_isVersion : GoodIn wsX9_same (wsV RX9 126 RX9 yX9_isVersion wsX9_isVersion) := goodIn_app (goodIn_of _ (by decide +kernel)) ggX9_same_X9_isVersion
set_option maxRecDepth 20000 in
theorem ggX9_same_X9_first : GoodIn wsX9_same wsX9_first := goodIn_r _ [15, 16, 17, 18, 6, 19, 20, 21, 28, 29, 30, 31, 32, 33, 34, 35, 36, 37, 38, 39, 40, 41, 42, 43, 44, 45, 46, 47, 48, 49, 50, 51, 52] (by decide +kernel) (by decide +kernel)
set_option maxRecDepth 20000 in
theorem gX9_same_X9_first : GoodIn wsX9_same (wsV RX9 91 RX9 yX9_first wsX9_first) := goodIn_app (goodIn_of _ (by decide +kernel)) ggX9_same_X9_first
set_option maxRecDepth 20000 in
theorem ggX9_same_X9_alike : GoodIn wsX9_same wsX9_alike := goodIn_r _ [25, 26, 27, 28, 29, 30, 31, 32, 33, 34, 35, 36, 37, 38, 39, 40, 41, 42, 43, 44, 45, 46, 47, 48, 49, 50, 51, 52] (by decide +kernel) (by decide +kernel)
set_option maxRecDepth 20000 in
theorem gX9_same_X9_alike : GoodIn wsX9_same (wsV RX9 122 RX9 yX9_alike wsX9_alike) := goodIn_app (goodIn_of _ (by decide +kernel)) ggX9_same_X9_alike
set_option maxRecDepth 20000 in
theorem ggX9_split_X9_isVersion : GoodIn wsX9_split wsX9_isVersion := goodIn_r _ [15, 16, 17, 18, 14, 19, 20, 21, 22, 23, 24, 25, 26, 27, 28, 29, 30, 31, 32, 33, 34, 35, 36, 37, 38, 39, 40, 41, 42, 43, 44] (by decide +kernel) (by decide +kernel)
set_option maxRecDepth 20000 in
theorem gX9_split_X9_isVersion : GoodIn wsX9_split (wsV RX9 126 RX9 yX9_isVersion wsX9_isVersion) := goodIn_app (goodIn_of _ (by decide +kernel)) ggX9_split_X9_isVersion
set_option maxRecDepth 20000 in
theorem ggX9_split_X9_in : GoodIn wsX9_split wsX9_in := goodIn_r _ [19] (by decide +kernel) (by decide +kernel)
set_option maxRecDepth 20000 in
theorem gX9_split_X9_in : GoodIn wsX9_split (va_wsS RX9 64 yX9_in wsX9_in) := goodIn_app (goodIn_of _ (by decide +kernel)) ggX9_split_X9_in
set_option maxRecDepth 20000 in
theorem ggX9_piece_X9_in : GoodIn wsX9_piece wsX9_in := goodIn_r _ [8] (by decide +kernel) (by decide +kernel)
set_option maxRecDepth 20000 in
theorem gX9_piece_X9_in : GoodIn wsX9_piece (va_wsS RX9 64 yX9_in wsX9_in) := goodIn_app (goodIn_of _ (by decide +kernel)) ggX9_piece_X9_in
set_option maxRecDepth 20000 in
theorem ggX9_piece_X9_lacking : GoodIn wsX9_piece wsX9_lacking := goodIn_r _ [12, 3, 4, 13, 14, 15, 16, 17, 18, 19, 20, 21, 22, 23, 24, 25, 26, 27, 28, 29, 30, 31, 32, 33, 34, 35, 36, 37] (by decide +kernel) (by decide +kernel)
set_option maxRecDepth 20000 in
theorem gX9_piece_X9_lacking : GoodIn wsX9_piece (wsV RX9 145 RX9 yX9_lacking wsX9_lacking) := goodIn_app (goodIn_of _ (by decide +kernel)) ggX9_piece_X9_lacking
set_option maxRecDepth 20000 in
theorem ggX9_missing_X9_lacking : GoodIn wsX9_missing wsX9_lacking := goodIn_r _ [7, 8, 9, 10, 11, 12, 13, 14, 15, 16, 17, 18, 19, 20, 21, 22, 23, 24, 25, 26, 27, 28, 29, 30, 31, 32, 33, 34] (by decide +kernel) (by decide +kernel)
set_option maxRecDepth 20000 in
theorem gX9_missing_X9_lacking : GoodIn wsX9_missing (wsV RX9 145 RX9 yX9_lacking wsX9_lacking) := goodIn_app (goodIn_of _ (by decide +kernel)) ggX9_missing_X9_lacking
set_option maxRecDepth 20000 in
theorem ggX9_joined_X9_lacking : GoodIn wsX9_joined wsX9_lacking := goodIn_r _ [9, 10, 11, 15, 16, 17, 18, 19, 20, 21, 22, 23, 24, 25, 26, 27, 28, 29, 30, 31, 32, 33, 34, 35, 36, 37, 38, 39] (by decide +kernel) (by decide +kernel)
set_option maxRecDepth 20000 in
theorem gX9_joined_X9_lacking : GoodIn wsX9_joined (wsV RX9 145 RX9 yX9_lacking wsX9_lacking) := goodIn_app (goodIn_of _ (by decide +kernel)) ggX9_joined_X9_lacking
set_option maxRecDepth 20000 in
theorem ggX9_joined_X9_in : GoodIn wsX9_joined wsX9_in := goodIn_r _ [14] (by decide +kernel) (by decide +kernel)
set_option maxRecDepth 20000 in
theorem gX9_joined_X9_in : GoodIn wsX9_joined (va_wsS RX9 64 yX9_in wsX9_in) := goodIn_app (goodIn_of _ (by decide +kernel)) ggX9_joined_X9_in
