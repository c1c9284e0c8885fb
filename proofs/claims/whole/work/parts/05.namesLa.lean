theorem dL_cell_0 : decode cL_cell 0 = .ok (.iload_n 1, 1) := by decide +kernel
theorem dL_cell_1 : decode cL_cell 1 = .ok (.aload_n 0, 1) := by decide +kernel
theorem dL_cell_2 : decode cL_cell 2 = .ok (.arraylength, 1) := by decide +kernel
theorem dL_cell_3 : decode cL_cell 3 = .ok (.if_icmp .ge 9, 3) := by decide +kernel
theorem dL_cell_6 : decode cL_cell 6 = .ok (.aload_n 0, 1) := by decide +kernel
theorem dL_cell_7 : decode cL_cell 7 = .ok (.iload_n 1, 1) := by decide +kernel
theorem dL_cell_8 : decode cL_cell 8 = .ok (.iaload, 1) := by decide +kernel
theorem dL_cell_9 : decode cL_cell 9 = .ok (.goto 4, 3) := by decide +kernel
theorem dL_cell_12 : decode cL_cell 12 = .ok (.iconst 0, 1) := by decide +kernel
theorem dL_cell_13 : decode cL_cell 13 = .ok (.ireturn, 1) := by decide +kernel
set_option maxRecDepth 20000 in
theorem ggL_law_L_cell : GoodIn wsL_law wsL_cell := goodIn_r _ [9] (by decide +kernel) (by decide +kernel)
set_option maxRecDepth 20000 in
theorem gL_law_L_cell : GoodIn wsL_law (va_wsS RL 9 yL_cell wsL_cell) := goodIn_app (goodIn_of _ (by decide +kernel)) ggL_law_L_cell
set_option maxRecDepth 20000 in
theorem ggL_law_X0_init : GoodIn wsL_law wsX0_init := goodIn_r _ [12, 13, 14, 15, 16, 17, 18, 19, 20, 21, 22, 23, 24, 25, 26, 27, 28, 2, 29, 30, 31, 32, 33, 34, 35, 36, 37, 38, 39, 40, 41, 42, 43, 44, 45, 46, 47, 265, 266, 267, 268, 269, 270, 271, 272, 273, 274, 275, 276] (by decide +kernel) (by decide +kernel)
set_option maxRecDepth 20000 in
theorem gL_law_X0_init : GoodIn wsL_law (wsX0_init) := ggL_law_X0_init
set_option maxRecDepth 20000 in
theorem ggL_law_X1_init : GoodIn wsL_law wsX1_init := goodIn_r _ [50, 51, 14, 15, 19, 52, 53, 54, 55, 24, 56, 57, 58, 59, 60, 61, 62, 63, 5, 64, 65, 66, 67, 68, 69, 70, 71, 277, 278, 279, 280, 281, 282, 283, 284, 285, 286, 287, 288] (by decide +kernel) (by decide +kernel)
set_option maxRecDepth 20000 in
theorem gL_law_X1_init : GoodIn wsL_law (wsX1_init) := ggL_law_X1_init
set_option maxRecDepth 20000 in
theorem ggL_law_X0_init_ : GoodIn wsL_law wsX0_init_ := goodIn_r _ [40, 16, 20, 41, 42, 43, 44, 45, 46, 2, 47, 22, 23, 25, 26, 265, 266, 267, 268, 269, 270, 271, 272, 273, 274, 275, 276] (by decide +kernel) (by decide +kernel)
set_option maxRecDepth 20000 in
theorem gL_law_X0_init_ : GoodIn wsL_law (wsV RL 21 RX0 yX0_init_ wsX0_init_) := goodIn_app (goodIn_of _ (by decide +kernel)) ggL_law_X0_init_
set_option maxRecDepth 20000 in
theorem ggL_law_X1_init_ : GoodIn wsL_law wsX1_init_ := goodIn_r _ [64, 52, 65, 66, 67, 68, 69, 70, 5, 71, 54, 55, 56, 57, 277, 278, 279, 280, 281, 282, 283, 284, 285, 286, 287, 288] (by decide +kernel) (by decide +kernel)
set_option maxRecDepth 20000 in
theorem gL_law_X1_init_ : GoodIn wsL_law (wsV RL 24 RX1 yX1_init_ wsX1_init_) := goodIn_app (goodIn_of _ (by decide +kernel)) ggL_law_X1_init_
set_option maxRecDepth 20000 in
theorem ggL_law_X0_fetch : GoodIn wsL_law wsX0_fetch := goodIn_r _ [77, 23, 26, 78, 79, 80, 2, 81, 17, 82, 83, 84, 85, 16, 22, 86, 87, 88, 89, 41, 90, 91, 92, 93, 94, 95, 96, 97, 98, 99, 100, 101, 25, 102, 103, 104, 105, 21, 20, 43, 106, 107, 108, 109, 18, 110, 111, 112, 113, 44, 45, 46, 47, 114, 115, 116, 117, 42, 265, 266, 267, 268, 269, 270, 271, 272, 273, 274, 275, 276] (by decide +kernel) (by decide +kernel)
set_option maxRecDepth 20000 in
theorem gL_law_X0_fetch : GoodIn wsL_law (wsV RL 25 RX0 yX0_fetch wsX0_fetch) := goodIn_app (goodIn_of _ (by decide +kernel)) ggL_law_X0_fetch
set_option maxRecDepth 20000 in
theorem ggL_law_X1_fetch : GoodIn wsL_law wsX1_fetch := goodIn_r _ [121, 60, 53, 52, 54, 66, 55, 57, 122, 123, 124, 5, 125, 59, 126, 127, 128, 129, 58, 130, 131, 132, 133, 65, 56, 134, 135, 136, 137, 138, 139, 140, 141, 67, 68, 69, 70, 71, 277, 278, 279, 280, 281, 282, 283, 284, 285, 286, 287, 288] (by decide +kernel) (by decide +kernel)
set_option maxRecDepth 20000 in
theorem gL_law_X1_fetch : GoodIn wsL_law (wsV RL 29 RX1 yX1_fetch wsX1_fetch) := goodIn_app (goodIn_of _ (by decide +kernel)) ggL_law_X1_fetch
set_option maxRecDepth 20000 in
theorem ggL_law_X0_unpin : GoodIn wsL_law wsX0_unpin := goodIn_r _ [145, 23, 146, 147, 148, 2, 149, 150, 151, 152, 153, 16, 265, 266, 267, 268, 269, 270, 271, 272, 273, 274, 275, 276] (by decide +kernel) (by decide +kernel)
set_option maxRecDepth 20000 in
theorem gL_law_X0_unpin : GoodIn wsL_law (wsV RL 30 RX0 yX0_unpin wsX0_unpin) := goodIn_app (goodIn_of _ (by decide +kernel)) ggL_law_X0_unpin
set_option maxRecDepth 20000 in
theorem ggL_law_X1_unpin : GoodIn wsL_law wsX1_unpin := goodIn_r _ [157, 55, 158, 159, 160, 5, 161, 58, 277, 278, 279, 280, 281, 282, 283, 284, 285, 286, 287, 288] (by decide +kernel) (by decide +kernel)
set_option maxRecDepth 20000 in
theorem gL_law_X1_unpin : GoodIn wsL_law (wsV RL 33 RX1 yX1_unpin wsX1_unpin) := goodIn_app (goodIn_of _ (by decide +kernel)) ggL_law_X1_unpin
set_option maxRecDepth 20000 in
theorem ggL_law_X0_readWord : GoodIn wsL_law wsX0_readWord := goodIn_r _ [165, 21, 18, 146, 147, 148, 2, 149, 23, 150, 151, 152, 153, 16, 166, 167, 168, 169, 265, 266, 267, 268, 269, 270, 271, 272, 273, 274, 275, 276] (by decide +kernel) (by decide +kernel)
set_option maxRecDepth 20000 in
theorem gL_law_X0_readWord : GoodIn wsL_law (wsV RL 34 RX0 yX0_readWord wsX0_readWord) := goodIn_app (goodIn_of _ (by decide +kernel)) ggL_law_X0_readWord
set_option maxRecDepth 20000 in
theorem ggL_law_X1_readWord : GoodIn wsL_law wsX1_readWord := goodIn_r _ [173, 60, 53, 158, 159, 160, 5, 161, 58, 55, 277, 278, 279, 280, 281, 282, 283, 284, 285, 286, 287, 288] (by decide +kernel) (by decide +kernel)
set_option maxRecDepth 20000 in
theorem gL_law_X1_readWord : GoodIn wsL_law (wsV RL 38 RX1 yX1_readWord wsX1_readWord) := goodIn_app (goodIn_of _ (by decide +kernel)) ggL_law_X1_readWord
set_option maxRecDepth 20000 in
theorem ggL_law_X0_writeWord : GoodIn wsL_law wsX0_writeWord := goodIn_r _ [177, 21, 18, 25, 146, 147, 148, 2, 149, 23, 150, 151, 152, 153, 16, 166, 167, 168, 169, 265, 266, 267, 268, 269, 270, 271, 272, 273, 274, 275, 276] (by decide +kernel) (by decide +kernel)
set_option maxRecDepth 20000 in
theorem gL_law_X0_writeWord : GoodIn wsL_law (wsV RL 39 RX0 yX0_writeWord wsX0_writeWord) := goodIn_app (goodIn_of _ (by decide +kernel)) ggL_law_X0_writeWord
set_option maxRecDepth 20000 in
theorem ggL_law_X1_writeWord : GoodIn wsL_law wsX1_writeWord := goodIn_r _ [181, 60, 53, 56, 158, 159, 160, 5, 161, 58, 55, 277, 278, 279, 280, 281, 282, 283, 284, 285, 286, 287, 288] (by decide +kernel) (by decide +kernel)
set_option maxRecDepth 20000 in
theorem gL_law_X1_writeWord : GoodIn wsL_law (wsV RL 43 RX1 yX1_writeWord wsX1_writeWord) := goodIn_app (goodIn_of _ (by decide +kernel)) ggL_law_X1_writeWord
set_option maxRecDepth 20000 in
theorem ggL_law_X0_flush : GoodIn wsL_law wsX0_flush := goodIn_r _ [185, 25, 82, 83, 84, 2, 85, 16, 22, 78, 79, 80, 81, 17, 102, 103, 104, 105, 21, 20, 43, 106, 107, 108, 109, 18, 110, 111, 112, 113, 265, 266, 267, 268, 269, 270, 271, 272, 273, 274, 275, 276] (by decide +kernel) (by decide +kernel)
set_option maxRecDepth 20000 in
theorem gL_law_X0_flush : GoodIn wsL_law (wsV RL 44 RX0 yX0_flush wsX0_flush) := goodIn_app (goodIn_of _ (by decide +kernel)) ggL_law_X0_flush
set_option maxRecDepth 20000 in
theorem ggL_law_X1_flush : GoodIn wsL_law wsX1_flush := goodIn_r _ [189, 56, 126, 127, 128, 5, 129, 58, 54, 138, 139, 140, 141, 60, 52, 53, 67, 277, 278, 279, 280, 281, 282, 283, 284, 285, 286, 287, 288] (by decide +kernel) (by decide +kernel)
set_option maxRecDepth 20000 in
theorem gL_law_X1_flush : GoodIn wsL_law (wsV RL 47 RX1 yX1_flush wsX1_flush) := goodIn_app (goodIn_of _ (by decide +kernel)) ggL_law_X1_flush
set_option maxRecDepth 20000 in
theorem ggL_law_X0_flushAll : GoodIn wsL_law wsX0_flushAll := goodIn_r _ [193, 16, 25, 102, 103, 104, 2, 105, 21, 20, 22, 43, 106, 107, 108, 109, 18, 110, 111, 112, 113, 265, 266, 267, 268, 269, 270, 271, 272, 273, 274, 275, 276] (by decide +kernel) (by decide +kernel)
set_option maxRecDepth 20000 in
theorem gL_law_X0_flushAll : GoodIn wsL_law (wsV RL 48 RX0 yX0_flushAll wsX0_flushAll) := goodIn_app (goodIn_of _ (by decide +kernel)) ggL_law_X0_flushAll
set_option maxRecDepth 20000 in
theorem ggL_law_X1_flushAll : GoodIn wsL_law wsX1_flushAll := goodIn_r _ [197, 58, 54, 198, 187, 188, 5, 189, 56, 126, 127, 128, 129, 138, 139, 140, 141, 60, 52, 53, 67, 277, 278, 279, 280, 281, 282, 283, 284, 285, 286, 287, 288] (by decide +kernel) (by decide +kernel)
set_option maxRecDepth 20000 in
theorem gL_law_X1_flushAll : GoodIn wsL_law (wsV RL 52 RX1 yX1_flushAll wsX1_flushAll) := goodIn_app (goodIn_of _ (by decide +kernel)) ggL_law_X1_flushAll
set_option maxRecDepth 20000 in
theorem ggL_law_X0_drop : GoodIn wsL_law wsX0_drop := goodIn_r _ [202, 23, 82, 83, 84, 2, 85, 16, 22, 78, 79, 80, 81, 17, 44, 45, 46, 47, 25, 26, 265, 266, 267, 268, 269, 270, 271, 272, 273, 274, 275, 276] (by decide +kernel) (by decide +kernel)
set_option maxRecDepth 20000 in
theorem gL_law_X0_drop : GoodIn wsL_law (wsV RL 53 RX0 yX0_drop wsX0_drop) := goodIn_app (goodIn_of _ (by decide +kernel)) ggL_law_X0_drop
set_option maxRecDepth 20000 in
theorem ggL_law_X1_drop : GoodIn wsL_law wsX1_drop := goodIn_r _ [206, 55, 126, 127, 128, 5, 129, 58, 54, 68, 69, 70, 71, 56, 57, 277, 278, 279, 280, 281, 282, 283, 284, 285, 286, 287, 288] (by decide +kernel) (by decide +kernel)
set_option maxRecDepth 20000 in
theorem gL_law_X1_drop : GoodIn wsL_law (wsV RL 57 RX1 yX1_drop wsX1_drop) := goodIn_app (goodIn_of _ (by decide +kernel)) ggL_law_X1_drop
set_option maxRecDepth 20000 in
theorem ggL_law_X0_copy : GoodIn wsL_law wsX0_copy := goodIn_r _ [210, 20, 21, 25, 78, 79, 80, 2, 81, 17, 82, 83, 84, 85, 16, 22, 146, 147, 148, 149, 23, 150, 151, 152, 153, 106, 107, 108, 109, 18, 110, 111, 112, 113, 265, 266, 267, 268, 269, 270, 271, 272, 273, 274, 275, 276] (by decide +kernel) (by decide +kernel)
set_option maxRecDepth 20000 in
theorem gL_law_X0_copy : GoodIn wsL_law (wsV RL 58 RX0 yX0_copy wsX0_copy) := goodIn_app (goodIn_of _ (by decide +kernel)) ggL_law_X0_copy
set_option maxRecDepth 20000 in
theorem ggL_law_X1_copy : GoodIn wsL_law wsX1_copy := goodIn_r _ [214, 55, 60, 53, 52, 56, 122, 123, 124, 5, 125, 59, 126, 127, 128, 129, 58, 54, 277, 278, 279, 280, 281, 282, 283, 284, 285, 286, 287, 288] (by decide +kernel) (by decide +kernel)
set_option maxRecDepth 20000 in
theorem gL_law_X1_copy : GoodIn wsL_law (wsV RL 61 RX1 yX1_copy wsX1_copy) := goodIn_app (goodIn_of _ (by decide +kernel)) ggL_law_X1_copy
set_option maxRecDepth 20000 in
theorem ggL_law_X0_diskWord : GoodIn wsL_law wsX0_diskWord := goodIn_r _ [218, 20, 18, 78, 79, 80, 2, 81, 17, 166, 167, 168, 169, 265, 266, 267, 268, 269, 270, 271, 272, 273, 274, 275, 276] (by decide +kernel) (by decide +kernel)
set_option maxRecDepth 20000 in
theorem gL_law_X0_diskWord : GoodIn wsL_law (wsV RL 62 RX0 yX0_diskWord wsX0_diskWord) := goodIn_app (goodIn_of _ (by decide +kernel)) ggL_law_X0_diskWord
set_option maxRecDepth 20000 in
theorem ggL_law_X1_diskWord : GoodIn wsL_law wsX1_diskWord := goodIn_r _ [222, 60, 52, 122, 123, 124, 5, 125, 59, 277, 278, 279, 280, 281, 282, 283, 284, 285, 286, 287, 288] (by decide +kernel) (by decide +kernel)
set_option maxRecDepth 20000 in
theorem gL_law_X1_diskWord : GoodIn wsL_law (wsV RL 65 RX1 yX1_diskWord wsX1_diskWord) := goodIn_app (goodIn_of _ (by decide +kernel)) ggL_law_X1_diskWord
set_option maxRecDepth 20000 in
theorem ggL_law_X0_resident : GoodIn wsL_law wsX0_resident := goodIn_r _ [226, 82, 83, 84, 2, 85, 16, 22, 78, 79, 80, 81, 17, 265, 266, 267, 268, 269, 270, 271, 272, 273, 274, 275, 276] (by decide +kernel) (by decide +kernel)
set_option maxRecDepth 20000 in
theorem gL_law_X0_resident : GoodIn wsL_law (wsV RL 66 RX0 yX0_resident wsX0_resident) := goodIn_app (goodIn_of _ (by decide +kernel)) ggL_law_X0_resident
set_option maxRecDepth 20000 in
theorem ggL_law_X1_resident : GoodIn wsL_law wsX1_resident := goodIn_r _ [230, 126, 127, 128, 5, 129, 58, 54, 277, 278, 279, 280, 281, 282, 283, 284, 285, 286, 287, 288] (by decide +kernel) (by decide +kernel)
set_option maxRecDepth 20000 in
theorem gL_law_X1_resident : GoodIn wsL_law (wsV RL 69 RX1 yX1_resident wsX1_resident) := goodIn_app (goodIn_of _ (by decide +kernel)) ggL_law_X1_resident
set_option maxRecDepth 20000 in
theorem ggL_law_X0_diskReads : GoodIn wsL_law wsX0_diskReads := goodIn_r _ [234, 42, 265, 266, 267, 268, 269, 270, 271, 272, 273, 274, 275, 276] (by decide +kernel) (by decide +kernel)
set_option maxRecDepth 20000 in
theorem gL_law_X0_diskReads : GoodIn wsL_law (wsV RL 70 RX0 yX0_diskReads wsX0_diskReads) := goodIn_app (goodIn_of _ (by decide +kernel)) ggL_law_X0_diskReads
set_option maxRecDepth 20000 in
theorem ggL_law_X1_diskReads : GoodIn wsL_law wsX1_diskReads := goodIn_r _ [238, 66, 277, 278, 279, 280, 281, 282, 283, 284, 285, 286, 287, 288] (by decide +kernel) (by decide +kernel)
set_option maxRecDepth 20000 in
theorem gL_law_X1_diskReads : GoodIn wsL_law (wsV RL 73 RX1 yX1_diskReads wsX1_diskReads) := goodIn_app (goodIn_of _ (by decide +kernel)) ggL_law_X1_diskReads
set_option maxRecDepth 20000 in
theorem ggL_law_X0_diskWrites : GoodIn wsL_law wsX0_diskWrites := goodIn_r _ [242, 43, 265, 266, 267, 268, 269, 270, 271, 272, 273, 274, 275, 276] (by decide +kernel) (by decide +kernel)
set_option maxRecDepth 20000 in
theorem gL_law_X0_diskWrites : GoodIn wsL_law (wsV RL 74 RX0 yX0_diskWrites wsX0_diskWrites) := goodIn_app (goodIn_of _ (by decide +kernel)) ggL_law_X0_diskWrites
set_option maxRecDepth 20000 in
theorem ggL_law_X1_diskWrites : GoodIn wsL_law wsX1_diskWrites := goodIn_r _ [246, 67, 277, 278, 279, 280, 281, 282, 283, 284, 285, 286, 287, 288] (by decide +kernel) (by decide +kernel)
set_option maxRecDepth 20000 in
theorem gL_law_X1_diskWrites : GoodIn wsL_law (wsV RL 77 RX1 yX1_diskWrites wsX1_diskWrites) := goodIn_app (goodIn_of _ (by decide +kernel)) ggL_law_X1_diskWrites
set_option maxRecDepth 20000 in
theorem ggL_law_X0_told : GoodIn wsL_law wsX0_told := goodIn_r _ [250, 22, 23, 25, 26, 150, 151, 152, 2, 153, 16, 265, 266, 267, 268, 269, 270, 271, 272, 273, 274, 275, 276] (by decide +kernel) (by decide +kernel)
set_option maxRecDepth 20000 in
theorem gL_law_X0_told : GoodIn wsL_law (wsV RL 78 RX0 yX0_told wsX0_told) := goodIn_app (goodIn_of _ (by decide +kernel)) ggL_law_X0_told
set_option maxRecDepth 20000 in
theorem ggL_law_X1_told : GoodIn wsL_law wsX1_told := goodIn_r _ [254, 58, 54, 55, 56, 57, 277, 278, 279, 280, 281, 282, 283, 284, 285, 286, 287, 288] (by decide +kernel) (by decide +kernel)
set_option maxRecDepth 20000 in
theorem gL_law_X1_told : GoodIn wsL_law (wsV RL 81 RX1 yX1_told wsX1_told) := goodIn_app (goodIn_of _ (by decide +kernel)) ggL_law_X1_told
set_option maxRecDepth 20000 in
theorem ggL_law_X0_hand : GoodIn wsL_law wsX0_hand := goodIn_r _ [258, 41, 265, 266, 267, 268, 269, 270, 271, 272, 273, 274, 275, 276] (by decide +kernel) (by decide +kernel)
set_option maxRecDepth 20000 in
theorem gL_law_X0_hand : GoodIn wsL_law (wsV RL 82 RX0 yX0_hand wsX0_hand) := goodIn_app (goodIn_of _ (by decide +kernel)) ggL_law_X0_hand
set_option maxRecDepth 20000 in
theorem ggL_law_X1_hand : GoodIn wsL_law wsX1_hand := goodIn_r _ [262, 65, 277, 278, 279, 280, 281, 282, 283, 284, 285, 286, 287, 288] (by decide +kernel) (by decide +kernel)
set_option maxRecDepth 20000 in
theorem gL_law_X1_hand : GoodIn wsL_law (wsV RL 85 RX1 yX1_hand wsX1_hand) := goodIn_app (goodIn_of _ (by decide +kernel)) ggL_law_X1_hand
set_option maxRecDepth 20000 in
theorem ggL_law_X0_pinned : GoodIn wsL_law wsX0_pinned := goodIn_r _ [93, 16, 23, 265, 266, 267, 268, 269, 270, 271, 272, 273, 274, 275, 276] (by decide +kernel) (by decide +kernel)
set_option maxRecDepth 20000 in
theorem gL_law_X0_pinned : GoodIn wsL_law (wsV RL 86 RX0 yX0_pinned wsX0_pinned) := goodIn_app (goodIn_of _ (by decide +kernel)) ggL_law_X0_pinned
set_option maxRecDepth 20000 in
theorem ggL_law_X1_pinned : GoodIn wsL_law wsX1_pinned := goodIn_r _ [137, 58, 55, 277, 278, 279, 280, 281, 282, 283, 284, 285, 286, 287, 288] (by decide +kernel) (by decide +kernel)
set_option maxRecDepth 20000 in
theorem gL_law_X1_pinned : GoodIn wsL_law (wsV RL 89 RX1 yX1_pinned wsX1_pinned) := goodIn_app (goodIn_of _ (by decide +kernel)) ggL_law_X1_pinned
