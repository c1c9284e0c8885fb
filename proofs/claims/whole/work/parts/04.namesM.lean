set_option maxRecDepth 20000 in
theorem ggX1_init_X1_init_ : GoodIn wsX1_init wsX1_init_ := goodIn_r _ [19, 5, 20, 21, 22, 23, 24, 25, 18, 26, 7, 8, 10, 11, 27, 28, 29, 30, 31, 32, 33, 34, 35, 36, 37, 38] (by decide +kernel) (by decide +kernel)
set_option maxRecDepth 20000 in
theorem gX1_init_X1_init_ : GoodIn wsX1_init (wsV RX1 39 RX1 yX1_init_ wsX1_init_) := goodIn_app (goodIn_of _ (by decide +kernel)) ggX1_init_X1_init_
theorem dX1_init_0 : decode cX1_init 0 = .ok (.aload_n 0, 1) := by decide +kernel
theorem dX1_init_1 : decode cX1_init 1 = .ok (.invokespecial 1, 3) := by decide +kernel
theorem dX1_init_4 : decode cX1_init 4 = .ok (.aload_n 0, 1) := by decide +kernel
theorem dX1_init_5 : decode cX1_init 5 = .ok (.sipush 1600, 3) := by decide +kernel
theorem dX1_init_8 : decode cX1_init 8 = .ok (.newarray .int, 2) := by decide +kernel
theorem dX1_init_10 : decode cX1_init 10 = .ok (.putfield 7, 3) := by decide +kernel
theorem dX1_init_13 : decode cX1_init 13 = .ok (.aload_n 0, 1) := by decide +kernel
theorem dX1_init_14 : decode cX1_init 14 = .ok (.sipush 256, 3) := by decide +kernel
theorem dX1_init_17 : decode cX1_init 17 = .ok (.newarray .int, 2) := by decide +kernel
theorem dX1_init_19 : decode cX1_init 19 = .ok (.putfield 13, 3) := by decide +kernel
theorem dX1_init_22 : decode cX1_init 22 = .ok (.aload_n 0, 1) := by decide +kernel
theorem dX1_init_23 : decode cX1_init 23 = .ok (.bipush 32, 2) := by decide +kernel
theorem dX1_init_25 : decode cX1_init 25 = .ok (.newarray .int, 2) := by decide +kernel
theorem dX1_init_27 : decode cX1_init 27 = .ok (.putfield 16, 3) := by decide +kernel
theorem dX1_init_30 : decode cX1_init 30 = .ok (.aload_n 0, 1) := by decide +kernel
theorem dX1_init_31 : decode cX1_init 31 = .ok (.bipush 32, 2) := by decide +kernel
theorem dX1_init_33 : decode cX1_init 33 = .ok (.newarray .int, 2) := by decide +kernel
theorem dX1_init_35 : decode cX1_init 35 = .ok (.putfield 19, 3) := by decide +kernel
theorem dX1_init_38 : decode cX1_init 38 = .ok (.aload_n 0, 1) := by decide +kernel
theorem dX1_init_39 : decode cX1_init 39 = .ok (.bipush 32, 2) := by decide +kernel
theorem dX1_init_41 : decode cX1_init 41 = .ok (.newarray .boolean, 2) := by decide +kernel
theorem dX1_init_43 : decode cX1_init 43 = .ok (.putfield 22, 3) := by decide +kernel
theorem dX1_init_46 : decode cX1_init 46 = .ok (.aload_n 0, 1) := by decide +kernel
theorem dX1_init_47 : decode cX1_init 47 = .ok (.bipush 32, 2) := by decide +kernel
theorem dX1_init_49 : decode cX1_init 49 = .ok (.newarray .boolean, 2) := by decide +kernel
theorem dX1_init_51 : decode cX1_init 51 = .ok (.putfield 26, 3) := by decide +kernel
theorem dX1_init_54 : decode cX1_init 54 = .ok (.aload_n 0, 1) := by decide +kernel
theorem dX1_init_55 : decode cX1_init 55 = .ok (.iload_n 1, 1) := by decide +kernel
theorem dX1_init_56 : decode cX1_init 56 = .ok (.iconst 1, 1) := by decide +kernel
theorem dX1_init_57 : decode cX1_init 57 = .ok (.if_icmp .ge 7, 3) := by decide +kernel
theorem dX1_init_60 : decode cX1_init 60 = .ok (.iconst 1, 1) := by decide +kernel
theorem dX1_init_61 : decode cX1_init 61 = .ok (.goto 15, 3) := by decide +kernel
theorem dX1_init_64 : decode cX1_init 64 = .ok (.iload_n 1, 1) := by decide +kernel
theorem dX1_init_65 : decode cX1_init 65 = .ok (.bipush 32, 2) := by decide +kernel
theorem dX1_init_67 : decode cX1_init 67 = .ok (.if_icmp .le 8, 3) := by decide +kernel
theorem dX1_init_70 : decode cX1_init 70 = .ok (.bipush 32, 2) := by decide +kernel
theorem dX1_init_72 : decode cX1_init 72 = .ok (.goto 4, 3) := by decide +kernel
theorem dX1_init_75 : decode cX1_init 75 = .ok (.iload_n 1, 1) := by decide +kernel
theorem dX1_init_76 : decode cX1_init 76 = .ok (.putfield 29, 3) := by decide +kernel
theorem dX1_init_79 : decode cX1_init 79 = .ok (.aload_n 0, 1) := by decide +kernel
theorem dX1_init_80 : decode cX1_init 80 = .ok (.iload_n 2, 1) := by decide +kernel
theorem dX1_init_81 : decode cX1_init 81 = .ok (.iconst 1, 1) := by decide +kernel
theorem dX1_init_82 : decode cX1_init 82 = .ok (.if_icmp .ge 7, 3) := by decide +kernel
theorem dX1_init_85 : decode cX1_init 85 = .ok (.iconst 1, 1) := by decide +kernel
theorem dX1_init_86 : decode cX1_init 86 = .ok (.goto 17, 3) := by decide +kernel
theorem dX1_init_89 : decode cX1_init 89 = .ok (.iload_n 2, 1) := by decide +kernel
theorem dX1_init_90 : decode cX1_init 90 = .ok (.sipush 200, 3) := by decide +kernel
theorem dX1_init_93 : decode cX1_init 93 = .ok (.if_icmp .le 9, 3) := by decide +kernel
theorem dX1_init_96 : decode cX1_init 96 = .ok (.sipush 200, 3) := by decide +kernel
theorem dX1_init_99 : decode cX1_init 99 = .ok (.goto 4, 3) := by decide +kernel
theorem dX1_init_102 : decode cX1_init 102 = .ok (.iload_n 2, 1) := by decide +kernel
theorem dX1_init_103 : decode cX1_init 103 = .ok (.putfield 33, 3) := by decide +kernel
theorem dX1_init_106 : decode cX1_init 106 = .ok (.aload_n 0, 1) := by decide +kernel
theorem dX1_init_107 : decode cX1_init 107 = .ok (.iload_n 3, 1) := by decide +kernel
theorem dX1_init_108 : decode cX1_init 108 = .ok (.iconst 1, 1) := by decide +kernel
theorem dX1_init_109 : decode cX1_init 109 = .ok (.if_icmp .ge 7, 3) := by decide +kernel
theorem dX1_init_112 : decode cX1_init 112 = .ok (.iconst 1, 1) := by decide +kernel
theorem dX1_init_113 : decode cX1_init 113 = .ok (.goto 15, 3) := by decide +kernel
theorem dX1_init_116 : decode cX1_init 116 = .ok (.iload_n 3, 1) := by decide +kernel
theorem dX1_init_117 : decode cX1_init 117 = .ok (.bipush 8, 2) := by decide +kernel
theorem dX1_init_119 : decode cX1_init 119 = .ok (.if_icmp .le 8, 3) := by decide +kernel
theorem dX1_init_122 : decode cX1_init 122 = .ok (.bipush 8, 2) := by decide +kernel
theorem dX1_init_124 : decode cX1_init 124 = .ok (.goto 4, 3) := by decide +kernel
theorem dX1_init_127 : decode cX1_init 127 = .ok (.iload_n 3, 1) := by decide +kernel
theorem dX1_init_128 : decode cX1_init 128 = .ok (.putfield 36, 3) := by decide +kernel
theorem dX1_init_131 : decode cX1_init 131 = .ok (.aload_n 0, 1) := by decide +kernel
theorem dX1_init_132 : decode cX1_init 132 = .ok (.invokevirtual 39, 3) := by decide +kernel
theorem dX1_init_135 : decode cX1_init 135 = .ok (.return_, 1) := by decide +kernel
set_option maxRecDepth 20000 in
theorem ggX1_init__X1_empty : GoodIn wsX1_init_ wsX1_empty := goodIn_r _ [9, 10, 11, 12, 13, 14, 15, 16, 17, 18, 19, 20, 21, 22, 23, 24, 25] (by decide +kernel) (by decide +kernel)
set_option maxRecDepth 20000 in
theorem gX1_init__X1_empty : GoodIn wsX1_init_ (wsV RX1 42 RX1 yX1_empty wsX1_empty) := goodIn_app (goodIn_of _ (by decide +kernel)) ggX1_init__X1_empty
theorem dX1_init__0 : decode cX1_init_ 0 = .ok (.iconst 0, 1) := by decide +kernel
theorem dX1_init__1 : decode cX1_init_ 1 = .ok (.istore_n 1, 1) := by decide +kernel
theorem dX1_init__2 : decode cX1_init_ 2 = .ok (.iload_n 1, 1) := by decide +kernel
theorem dX1_init__3 : decode cX1_init_ 3 = .ok (.sipush 1600, 3) := by decide +kernel
theorem dX1_init__6 : decode cX1_init_ 6 = .ok (.if_icmp .ge 16, 3) := by decide +kernel
theorem dX1_init__9 : decode cX1_init_ 9 = .ok (.aload_n 0, 1) := by decide +kernel
theorem dX1_init__10 : decode cX1_init_ 10 = .ok (.getfield 7, 3) := by decide +kernel
theorem dX1_init__13 : decode cX1_init_ 13 = .ok (.iload_n 1, 1) := by decide +kernel
theorem dX1_init__14 : decode cX1_init_ 14 = .ok (.iconst 0, 1) := by decide +kernel
theorem dX1_init__15 : decode cX1_init_ 15 = .ok (.iastore, 1) := by decide +kernel
theorem dX1_init__16 : decode cX1_init_ 16 = .ok (.iinc 1 1, 3) := by decide +kernel
theorem dX1_init__19 : decode cX1_init_ 19 = .ok (.goto (-17), 3) := by decide +kernel
theorem dX1_init__22 : decode cX1_init_ 22 = .ok (.iconst 0, 1) := by decide +kernel
theorem dX1_init__23 : decode cX1_init_ 23 = .ok (.istore_n 1, 1) := by decide +kernel
theorem dX1_init__24 : decode cX1_init_ 24 = .ok (.iload_n 1, 1) := by decide +kernel
theorem dX1_init__25 : decode cX1_init_ 25 = .ok (.bipush 32, 2) := by decide +kernel
theorem dX1_init__27 : decode cX1_init_ 27 = .ok (.if_icmp .ge 14, 3) := by decide +kernel
theorem dX1_init__30 : decode cX1_init_ 30 = .ok (.aload_n 0, 1) := by decide +kernel
theorem dX1_init__31 : decode cX1_init_ 31 = .ok (.iload_n 1, 1) := by decide +kernel
theorem dX1_init__32 : decode cX1_init_ 32 = .ok (.invokevirtual 42, 3) := by decide +kernel
theorem dX1_init__35 : decode cX1_init_ 35 = .ok (.iinc 1 1, 3) := by decide +kernel
theorem dX1_init__38 : decode cX1_init_ 38 = .ok (.goto (-14), 3) := by decide +kernel
theorem dX1_init__41 : decode cX1_init_ 41 = .ok (.aload_n 0, 1) := by decide +kernel
theorem dX1_init__42 : decode cX1_init_ 42 = .ok (.iconst 0, 1) := by decide +kernel
theorem dX1_init__43 : decode cX1_init_ 43 = .ok (.putfield 46, 3) := by decide +kernel
theorem dX1_init__46 : decode cX1_init_ 46 = .ok (.aload_n 0, 1) := by decide +kernel
theorem dX1_init__47 : decode cX1_init_ 47 = .ok (.iconst 0, 1) := by decide +kernel
theorem dX1_init__48 : decode cX1_init_ 48 = .ok (.putfield 49, 3) := by decide +kernel
theorem dX1_init__51 : decode cX1_init_ 51 = .ok (.aload_n 0, 1) := by decide +kernel
theorem dX1_init__52 : decode cX1_init_ 52 = .ok (.iconst 0, 1) := by decide +kernel
theorem dX1_init__53 : decode cX1_init_ 53 = .ok (.putfield 52, 3) := by decide +kernel
theorem dX1_init__56 : decode cX1_init_ 56 = .ok (.return_, 1) := by decide +kernel
theorem dX1_empty_0 : decode cX1_empty 0 = .ok (.aload_n 0, 1) := by decide +kernel
theorem dX1_empty_1 : decode cX1_empty 1 = .ok (.getfield 16, 3) := by decide +kernel
theorem dX1_empty_4 : decode cX1_empty 4 = .ok (.iload_n 1, 1) := by decide +kernel
theorem dX1_empty_5 : decode cX1_empty 5 = .ok (.iconst (-1), 1) := by decide +kernel
theorem dX1_empty_6 : decode cX1_empty 6 = .ok (.iastore, 1) := by decide +kernel
theorem dX1_empty_7 : decode cX1_empty 7 = .ok (.aload_n 0, 1) := by decide +kernel
theorem dX1_empty_8 : decode cX1_empty 8 = .ok (.getfield 19, 3) := by decide +kernel
theorem dX1_empty_11 : decode cX1_empty 11 = .ok (.iload_n 1, 1) := by decide +kernel
theorem dX1_empty_12 : decode cX1_empty 12 = .ok (.iconst 0, 1) := by decide +kernel
theorem dX1_empty_13 : decode cX1_empty 13 = .ok (.iastore, 1) := by decide +kernel
theorem dX1_empty_14 : decode cX1_empty 14 = .ok (.aload_n 0, 1) := by decide +kernel
theorem dX1_empty_15 : decode cX1_empty 15 = .ok (.getfield 22, 3) := by decide +kernel
theorem dX1_empty_18 : decode cX1_empty 18 = .ok (.iload_n 1, 1) := by decide +kernel
theorem dX1_empty_19 : decode cX1_empty 19 = .ok (.iconst 0, 1) := by decide +kernel
theorem dX1_empty_20 : decode cX1_empty 20 = .ok (.bastore, 1) := by decide +kernel
theorem dX1_empty_21 : decode cX1_empty 21 = .ok (.aload_n 0, 1) := by decide +kernel
theorem dX1_empty_22 : decode cX1_empty 22 = .ok (.getfield 26, 3) := by decide +kernel
theorem dX1_empty_25 : decode cX1_empty 25 = .ok (.iload_n 1, 1) := by decide +kernel
theorem dX1_empty_26 : decode cX1_empty 26 = .ok (.iconst 0, 1) := by decide +kernel
theorem dX1_empty_27 : decode cX1_empty 27 = .ok (.bastore, 1) := by decide +kernel
theorem dX1_empty_28 : decode cX1_empty 28 = .ok (.return_, 1) := by decide +kernel
theorem dX1_isPage_0 : decode cX1_isPage 0 = .ok (.iload_n 1, 1) := by decide +kernel
theorem dX1_isPage_1 : decode cX1_isPage 1 = .ok (.ifCond .lt 15, 3) := by decide +kernel
theorem dX1_isPage_4 : decode cX1_isPage 4 = .ok (.iload_n 1, 1) := by decide +kernel
theorem dX1_isPage_5 : decode cX1_isPage 5 = .ok (.aload_n 0, 1) := by decide +kernel
theorem dX1_isPage_6 : decode cX1_isPage 6 = .ok (.getfield 33, 3) := by decide +kernel
theorem dX1_isPage_9 : decode cX1_isPage 9 = .ok (.if_icmp .ge 7, 3) := by decide +kernel
theorem dX1_isPage_12 : decode cX1_isPage 12 = .ok (.iconst 1, 1) := by decide +kernel
theorem dX1_isPage_13 : decode cX1_isPage 13 = .ok (.goto 4, 3) := by decide +kernel
theorem dX1_isPage_16 : decode cX1_isPage 16 = .ok (.iconst 0, 1) := by decide +kernel
theorem dX1_isPage_17 : decode cX1_isPage 17 = .ok (.ireturn, 1) := by decide +kernel
theorem dX1_isPinned_0 : decode cX1_isPinned 0 = .ok (.iload_n 1, 1) := by decide +kernel
theorem dX1_isPinned_1 : decode cX1_isPinned 1 = .ok (.ifCond .lt 24, 3) := by decide +kernel
theorem dX1_isPinned_4 : decode cX1_isPinned 4 = .ok (.iload_n 1, 1) := by decide +kernel
theorem dX1_isPinned_5 : decode cX1_isPinned 5 = .ok (.aload_n 0, 1) := by decide +kernel
theorem dX1_isPinned_6 : decode cX1_isPinned 6 = .ok (.getfield 29, 3) := by decide +kernel
theorem dX1_isPinned_9 : decode cX1_isPinned 9 = .ok (.if_icmp .ge 16, 3) := by decide +kernel
theorem dX1_isPinned_12 : decode cX1_isPinned 12 = .ok (.aload_n 0, 1) := by decide +kernel
theorem dX1_isPinned_13 : decode cX1_isPinned 13 = .ok (.getfield 19, 3) := by decide +kernel
theorem dX1_isPinned_16 : decode cX1_isPinned 16 = .ok (.iload_n 1, 1) := by decide +kernel
theorem dX1_isPinned_17 : decode cX1_isPinned 17 = .ok (.iaload, 1) := by decide +kernel
theorem dX1_isPinned_18 : decode cX1_isPinned 18 = .ok (.ifCond .le 7, 3) := by decide +kernel
theorem dX1_isPinned_21 : decode cX1_isPinned 21 = .ok (.iconst 1, 1) := by decide +kernel
theorem dX1_isPinned_22 : decode cX1_isPinned 22 = .ok (.goto 4, 3) := by decide +kernel
theorem dX1_isPinned_25 : decode cX1_isPinned 25 = .ok (.iconst 0, 1) := by decide +kernel
theorem dX1_isPinned_26 : decode cX1_isPinned 26 = .ok (.ireturn, 1) := by decide +kernel
theorem dX1_frameOf_0 : decode cX1_frameOf 0 = .ok (.iconst 0, 1) := by decide +kernel
theorem dX1_frameOf_1 : decode cX1_frameOf 1 = .ok (.istore_n 2, 1) := by decide +kernel
theorem dX1_frameOf_2 : decode cX1_frameOf 2 = .ok (.iload_n 2, 1) := by decide +kernel
theorem dX1_frameOf_3 : decode cX1_frameOf 3 = .ok (.aload_n 0, 1) := by decide +kernel
theorem dX1_frameOf_4 : decode cX1_frameOf 4 = .ok (.getfield 29, 3) := by decide +kernel
theorem dX1_frameOf_7 : decode cX1_frameOf 7 = .ok (.if_icmp .ge 25, 3) := by decide +kernel
theorem dX1_frameOf_10 : decode cX1_frameOf 10 = .ok (.iload_n 1, 1) := by decide +kernel
theorem dX1_frameOf_11 : decode cX1_frameOf 11 = .ok (.ifCond .lt 15, 3) := by decide +kernel
theorem dX1_frameOf_14 : decode cX1_frameOf 14 = .ok (.aload_n 0, 1) := by decide +kernel
theorem dX1_frameOf_15 : decode cX1_frameOf 15 = .ok (.getfield 16, 3) := by decide +kernel
theorem dX1_frameOf_18 : decode cX1_frameOf 18 = .ok (.iload_n 2, 1) := by decide +kernel
theorem dX1_frameOf_19 : decode cX1_frameOf 19 = .ok (.iaload, 1) := by decide +kernel
theorem dX1_frameOf_20 : decode cX1_frameOf 20 = .ok (.iload_n 1, 1) := by decide +kernel
theorem dX1_frameOf_21 : decode cX1_frameOf 21 = .ok (.if_icmp .ne 5, 3) := by decide +kernel
theorem dX1_frameOf_24 : decode cX1_frameOf 24 = .ok (.iload_n 2, 1) := by decide +kernel
theorem dX1_frameOf_25 : decode cX1_frameOf 25 = .ok (.ireturn, 1) := by decide +kernel
theorem dX1_frameOf_26 : decode cX1_frameOf 26 = .ok (.iinc 2 1, 3) := by decide +kernel
theorem dX1_frameOf_29 : decode cX1_frameOf 29 = .ok (.goto (-27), 3) := by decide +kernel
theorem dX1_frameOf_32 : decode cX1_frameOf 32 = .ok (.bipush (-5), 2) := by decide +kernel
theorem dX1_frameOf_34 : decode cX1_frameOf 34 = .ok (.ireturn, 1) := by decide +kernel
theorem dX1_store_0 : decode cX1_store 0 = .ok (.iconst 0, 1) := by decide +kernel
theorem dX1_store_1 : decode cX1_store 1 = .ok (.istore_n 2, 1) := by decide +kernel
theorem dX1_store_2 : decode cX1_store 2 = .ok (.iload_n 2, 1) := by decide +kernel
theorem dX1_store_3 : decode cX1_store 3 = .ok (.aload_n 0, 1) := by decide +kernel
theorem dX1_store_4 : decode cX1_store 4 = .ok (.getfield 36, 3) := by decide +kernel
theorem dX1_store_7 : decode cX1_store 7 = .ok (.if_icmp .ge 36, 3) := by decide +kernel
theorem dX1_store_10 : decode cX1_store 10 = .ok (.aload_n 0, 1) := by decide +kernel
theorem dX1_store_11 : decode cX1_store 11 = .ok (.getfield 7, 3) := by decide +kernel
theorem dX1_store_14 : decode cX1_store 14 = .ok (.bipush 8, 2) := by decide +kernel
theorem dX1_store_16 : decode cX1_store 16 = .ok (.aload_n 0, 1) := by decide +kernel
theorem dX1_store_17 : decode cX1_store 17 = .ok (.getfield 16, 3) := by decide +kernel
theorem dX1_store_20 : decode cX1_store 20 = .ok (.iload_n 1, 1) := by decide +kernel
theorem dX1_store_21 : decode cX1_store 21 = .ok (.iaload, 1) := by decide +kernel
theorem dX1_store_22 : decode cX1_store 22 = .ok (.imul, 1) := by decide +kernel
theorem dX1_store_23 : decode cX1_store 23 = .ok (.iload_n 2, 1) := by decide +kernel
theorem dX1_store_24 : decode cX1_store 24 = .ok (.iadd, 1) := by decide +kernel
theorem dX1_store_25 : decode cX1_store 25 = .ok (.aload_n 0, 1) := by decide +kernel
theorem dX1_store_26 : decode cX1_store 26 = .ok (.getfield 13, 3) := by decide +kernel
theorem dX1_store_29 : decode cX1_store 29 = .ok (.bipush 8, 2) := by decide +kernel
theorem dX1_store_31 : decode cX1_store 31 = .ok (.iload_n 1, 1) := by decide +kernel
theorem dX1_store_32 : decode cX1_store 32 = .ok (.imul, 1) := by decide +kernel
theorem dX1_store_33 : decode cX1_store 33 = .ok (.iload_n 2, 1) := by decide +kernel
theorem dX1_store_34 : decode cX1_store 34 = .ok (.iadd, 1) := by decide +kernel
theorem dX1_store_35 : decode cX1_store 35 = .ok (.iaload, 1) := by decide +kernel
theorem dX1_store_36 : decode cX1_store 36 = .ok (.iastore, 1) := by decide +kernel
theorem dX1_store_37 : decode cX1_store 37 = .ok (.iinc 2 1, 3) := by decide +kernel
theorem dX1_store_40 : decode cX1_store 40 = .ok (.goto (-38), 3) := by decide +kernel
theorem dX1_store_43 : decode cX1_store 43 = .ok (.aload_n 0, 1) := by decide +kernel
theorem dX1_store_44 : decode cX1_store 44 = .ok (.getfield 22, 3) := by decide +kernel
theorem dX1_store_47 : decode cX1_store 47 = .ok (.iload_n 1, 1) := by decide +kernel
theorem dX1_store_48 : decode cX1_store 48 = .ok (.iconst 0, 1) := by decide +kernel
theorem dX1_store_49 : decode cX1_store 49 = .ok (.bastore, 1) := by decide +kernel
theorem dX1_store_50 : decode cX1_store 50 = .ok (.aload_n 0, 1) := by decide +kernel
theorem dX1_store_51 : decode cX1_store 51 = .ok (.dup, 1) := by decide +kernel
theorem dX1_store_52 : decode cX1_store 52 = .ok (.getfield 52, 3) := by decide +kernel
theorem dX1_store_55 : decode cX1_store 55 = .ok (.iconst 1, 1) := by decide +kernel
theorem dX1_store_56 : decode cX1_store 56 = .ok (.iadd, 1) := by decide +kernel
theorem dX1_store_57 : decode cX1_store 57 = .ok (.putfield 52, 3) := by decide +kernel
theorem dX1_store_60 : decode cX1_store 60 = .ok (.return_, 1) := by decide +kernel
set_option maxRecDepth 20000 in
theorem ggX1_find_X1_pinned : GoodIn wsX1_find wsX1_pinned := goodIn_r _ [11, 1, 3, 24, 25, 26, 27, 28, 29, 30, 31, 32, 33, 34, 35] (by decide +kernel) (by decide +kernel)
set_option maxRecDepth 20000 in
theorem gX1_find_X1_pinned : GoodIn wsX1_find (wsV RX1 55 RX1 yX1_pinned wsX1_pinned) := goodIn_app (goodIn_of _ (by decide +kernel)) ggX1_find_X1_pinned
set_option maxRecDepth 20000 in
theorem ggX1_find_X1_store : GoodIn wsX1_find wsX1_store := goodIn_r _ [15, 16, 17, 4, 18, 6, 19, 24, 25, 26, 27, 28, 29, 30, 31, 32, 33, 34, 35] (by decide +kernel) (by decide +kernel)
set_option maxRecDepth 20000 in
theorem gX1_find_X1_store : GoodIn wsX1_find (wsV RX1 59 RX1 yX1_store wsX1_store) := goodIn_app (goodIn_of _ (by decide +kernel)) ggX1_find_X1_store
set_option maxRecDepth 20000 in
theorem ggX1_find_X1_empty : GoodIn wsX1_find wsX1_empty := goodIn_r _ [23, 4, 3, 6, 5, 24, 25, 26, 27, 28, 29, 30, 31, 32, 33, 34, 35] (by decide +kernel) (by decide +kernel)
set_option maxRecDepth 20000 in
theorem gX1_find_X1_empty : GoodIn wsX1_find (wsV RX1 42 RX1 yX1_empty wsX1_empty) := goodIn_app (goodIn_of _ (by decide +kernel)) ggX1_find_X1_empty
theorem dX1_find_0 : decode cX1_find 0 = .ok (.aload_n 0, 1) := by decide +kernel
theorem dX1_find_1 : decode cX1_find 1 = .ok (.invokevirtual 55, 3) := by decide +kernel
theorem dX1_find_4 : decode cX1_find 4 = .ok (.aload_n 0, 1) := by decide +kernel
theorem dX1_find_5 : decode cX1_find 5 = .ok (.getfield 29, 3) := by decide +kernel
theorem dX1_find_8 : decode cX1_find 8 = .ok (.if_icmp .ne 6, 3) := by decide +kernel
theorem dX1_find_11 : decode cX1_find 11 = .ok (.bipush (-5), 2) := by decide +kernel
theorem dX1_find_13 : decode cX1_find 13 = .ok (.ireturn, 1) := by decide +kernel
theorem dX1_find_14 : decode cX1_find 14 = .ok (.aload_n 0, 1) := by decide +kernel
theorem dX1_find_15 : decode cX1_find 15 = .ok (.getfield 46, 3) := by decide +kernel
theorem dX1_find_18 : decode cX1_find 18 = .ok (.istore_n 1, 1) := by decide +kernel
theorem dX1_find_19 : decode cX1_find 19 = .ok (.aload_n 0, 1) := by decide +kernel
theorem dX1_find_20 : decode cX1_find 20 = .ok (.aload_n 0, 1) := by decide +kernel
theorem dX1_find_21 : decode cX1_find 21 = .ok (.getfield 46, 3) := by decide +kernel
theorem dX1_find_24 : decode cX1_find 24 = .ok (.iconst 1, 1) := by decide +kernel
theorem dX1_find_25 : decode cX1_find 25 = .ok (.iadd, 1) := by decide +kernel
theorem dX1_find_26 : decode cX1_find 26 = .ok (.aload_n 0, 1) := by decide +kernel
theorem dX1_find_27 : decode cX1_find 27 = .ok (.getfield 29, 3) := by decide +kernel
theorem dX1_find_30 : decode cX1_find 30 = .ok (.if_icmp .ne 7, 3) := by decide +kernel
theorem dX1_find_33 : decode cX1_find 33 = .ok (.iconst 0, 1) := by decide +kernel
theorem dX1_find_34 : decode cX1_find 34 = .ok (.goto 9, 3) := by decide +kernel
theorem dX1_find_37 : decode cX1_find 37 = .ok (.aload_n 0, 1) := by decide +kernel
theorem dX1_find_38 : decode cX1_find 38 = .ok (.getfield 46, 3) := by decide +kernel
theorem dX1_find_41 : decode cX1_find 41 = .ok (.iconst 1, 1) := by decide +kernel
theorem dX1_find_42 : decode cX1_find 42 = .ok (.iadd, 1) := by decide +kernel
theorem dX1_find_43 : decode cX1_find 43 = .ok (.putfield 46, 3) := by decide +kernel
theorem dX1_find_46 : decode cX1_find 46 = .ok (.aload_n 0, 1) := by decide +kernel
theorem dX1_find_47 : decode cX1_find 47 = .ok (.getfield 19, 3) := by decide +kernel
theorem dX1_find_50 : decode cX1_find 50 = .ok (.iload_n 1, 1) := by decide +kernel
theorem dX1_find_51 : decode cX1_find 51 = .ok (.iaload, 1) := by decide +kernel
theorem dX1_find_52 : decode cX1_find 52 = .ok (.ifCond .le 6, 3) := by decide +kernel
theorem dX1_find_55 : decode cX1_find 55 = .ok (.goto (-41), 3) := by decide +kernel
theorem dX1_find_58 : decode cX1_find 58 = .ok (.aload_n 0, 1) := by decide +kernel
theorem dX1_find_59 : decode cX1_find 59 = .ok (.getfield 16, 3) := by decide +kernel
theorem dX1_find_62 : decode cX1_find 62 = .ok (.iload_n 1, 1) := by decide +kernel
theorem dX1_find_63 : decode cX1_find 63 = .ok (.iaload, 1) := by decide +kernel
theorem dX1_find_64 : decode cX1_find 64 = .ok (.iconst (-1), 1) := by decide +kernel
theorem dX1_find_65 : decode cX1_find 65 = .ok (.if_icmp .eq 22, 3) := by decide +kernel
theorem dX1_find_68 : decode cX1_find 68 = .ok (.aload_n 0, 1) := by decide +kernel
theorem dX1_find_69 : decode cX1_find 69 = .ok (.getfield 26, 3) := by decide +kernel
theorem dX1_find_72 : decode cX1_find 72 = .ok (.iload_n 1, 1) := by decide +kernel
theorem dX1_find_73 : decode cX1_find 73 = .ok (.baload, 1) := by decide +kernel
theorem dX1_find_74 : decode cX1_find 74 = .ok (.ifCond .eq 13, 3) := by decide +kernel
theorem dX1_find_77 : decode cX1_find 77 = .ok (.aload_n 0, 1) := by decide +kernel
theorem dX1_find_78 : decode cX1_find 78 = .ok (.getfield 26, 3) := by decide +kernel
theorem dX1_find_81 : decode cX1_find 81 = .ok (.iload_n 1, 1) := by decide +kernel
theorem dX1_find_82 : decode cX1_find 82 = .ok (.iconst 0, 1) := by decide +kernel
theorem dX1_find_83 : decode cX1_find 83 = .ok (.bastore, 1) := by decide +kernel
theorem dX1_find_84 : decode cX1_find 84 = .ok (.goto (-70), 3) := by decide +kernel
theorem dX1_find_87 : decode cX1_find 87 = .ok (.aload_n 0, 1) := by decide +kernel
theorem dX1_find_88 : decode cX1_find 88 = .ok (.getfield 16, 3) := by decide +kernel
theorem dX1_find_91 : decode cX1_find 91 = .ok (.iload_n 1, 1) := by decide +kernel
theorem dX1_find_92 : decode cX1_find 92 = .ok (.iaload, 1) := by decide +kernel
theorem dX1_find_93 : decode cX1_find 93 = .ok (.iconst (-1), 1) := by decide +kernel
theorem dX1_find_94 : decode cX1_find 94 = .ok (.if_icmp .eq 17, 3) := by decide +kernel
theorem dX1_find_97 : decode cX1_find 97 = .ok (.aload_n 0, 1) := by decide +kernel
theorem dX1_find_98 : decode cX1_find 98 = .ok (.getfield 22, 3) := by decide +kernel
theorem dX1_find_101 : decode cX1_find 101 = .ok (.iload_n 1, 1) := by decide +kernel
theorem dX1_find_102 : decode cX1_find 102 = .ok (.baload, 1) := by decide +kernel
theorem dX1_find_103 : decode cX1_find 103 = .ok (.ifCond .eq 8, 3) := by decide +kernel
theorem dX1_find_106 : decode cX1_find 106 = .ok (.aload_n 0, 1) := by decide +kernel
theorem dX1_find_107 : decode cX1_find 107 = .ok (.iload_n 1, 1) := by decide +kernel
theorem dX1_find_108 : decode cX1_find 108 = .ok (.invokevirtual 59, 3) := by decide +kernel
theorem dX1_find_111 : decode cX1_find 111 = .ok (.aload_n 0, 1) := by decide +kernel
theorem dX1_find_112 : decode cX1_find 112 = .ok (.iload_n 1, 1) := by decide +kernel
theorem dX1_find_113 : decode cX1_find 113 = .ok (.invokevirtual 42, 3) := by decide +kernel
theorem dX1_find_116 : decode cX1_find 116 = .ok (.iload_n 1, 1) := by decide +kernel
theorem dX1_find_117 : decode cX1_find 117 = .ok (.ireturn, 1) := by decide +kernel
set_option maxRecDepth 20000 in
theorem ggX1_fetch_X1_isPage : GoodIn wsX1_fetch wsX1_isPage := goodIn_r _ [12, 13, 38, 39, 40, 41, 42, 43, 44, 45, 46, 47, 48, 49] (by decide +kernel) (by decide +kernel)
set_option maxRecDepth 20000 in
theorem gX1_fetch_X1_isPage : GoodIn wsX1_fetch (wsV RX1 62 RX1 yX1_isPage wsX1_isPage) := goodIn_app (goodIn_of _ (by decide +kernel)) ggX1_fetch_X1_isPage
set_option maxRecDepth 20000 in
theorem ggX1_fetch_X1_frameOf : GoodIn wsX1_fetch wsX1_frameOf := goodIn_r _ [17, 18, 4, 38, 39, 40, 41, 42, 43, 44, 45, 46, 47, 48, 49] (by decide +kernel) (by decide +kernel)
set_option maxRecDepth 20000 in
theorem gX1_fetch_X1_frameOf : GoodIn wsX1_fetch (wsV RX1 66 RX1 yX1_frameOf wsX1_frameOf) := goodIn_app (goodIn_of _ (by decide +kernel)) ggX1_fetch_X1_frameOf
set_option maxRecDepth 20000 in
theorem ggX1_fetch_X1_find : GoodIn wsX1_fetch wsX1_find := goodIn_r _ [22, 18, 23, 6, 4, 7, 24, 25, 26, 27, 11, 28, 29, 30, 31, 32, 1, 3, 2, 33, 34, 35, 36, 37, 38, 39, 40, 41, 42, 43, 44, 45, 46, 47, 48, 49] (by decide +kernel) (by decide +kernel)
set_option maxRecDepth 20000 in
theorem gX1_fetch_X1_find : GoodIn wsX1_fetch (wsV RX1 70 RX1 yX1_find wsX1_find) := goodIn_app (goodIn_of _ (by decide +kernel)) ggX1_fetch_X1_find
theorem dX1_fetch_0 : decode cX1_fetch 0 = .ok (.aload_n 0, 1) := by decide +kernel
theorem dX1_fetch_1 : decode cX1_fetch 1 = .ok (.iload_n 1, 1) := by decide +kernel
theorem dX1_fetch_2 : decode cX1_fetch 2 = .ok (.invokevirtual 62, 3) := by decide +kernel
theorem dX1_fetch_5 : decode cX1_fetch 5 = .ok (.ifCond .ne 6, 3) := by decide +kernel
theorem dX1_fetch_8 : decode cX1_fetch 8 = .ok (.bipush (-2), 2) := by decide +kernel
theorem dX1_fetch_10 : decode cX1_fetch 10 = .ok (.ireturn, 1) := by decide +kernel
theorem dX1_fetch_11 : decode cX1_fetch 11 = .ok (.aload_n 0, 1) := by decide +kernel
theorem dX1_fetch_12 : decode cX1_fetch 12 = .ok (.iload_n 1, 1) := by decide +kernel
theorem dX1_fetch_13 : decode cX1_fetch 13 = .ok (.invokevirtual 66, 3) := by decide +kernel
theorem dX1_fetch_16 : decode cX1_fetch 16 = .ok (.istore_n 2, 1) := by decide +kernel
theorem dX1_fetch_17 : decode cX1_fetch 17 = .ok (.iload_n 2, 1) := by decide +kernel
theorem dX1_fetch_18 : decode cX1_fetch 18 = .ok (.bipush (-5), 2) := by decide +kernel
theorem dX1_fetch_20 : decode cX1_fetch 20 = .ok (.if_icmp .ne 71, 3) := by decide +kernel
theorem dX1_fetch_23 : decode cX1_fetch 23 = .ok (.aload_n 0, 1) := by decide +kernel
theorem dX1_fetch_24 : decode cX1_fetch 24 = .ok (.invokevirtual 70, 3) := by decide +kernel
theorem dX1_fetch_27 : decode cX1_fetch 27 = .ok (.istore_n 2, 1) := by decide +kernel
theorem dX1_fetch_28 : decode cX1_fetch 28 = .ok (.iload_n 2, 1) := by decide +kernel
theorem dX1_fetch_29 : decode cX1_fetch 29 = .ok (.bipush (-5), 2) := by decide +kernel
theorem dX1_fetch_31 : decode cX1_fetch 31 = .ok (.if_icmp .ne 5, 3) := by decide +kernel
theorem dX1_fetch_34 : decode cX1_fetch 34 = .ok (.iconst (-1), 1) := by decide +kernel
theorem dX1_fetch_35 : decode cX1_fetch 35 = .ok (.ireturn, 1) := by decide +kernel
theorem dX1_fetch_36 : decode cX1_fetch 36 = .ok (.iconst 0, 1) := by decide +kernel
theorem dX1_fetch_37 : decode cX1_fetch 37 = .ok (.istore_n 3, 1) := by decide +kernel
theorem dX1_fetch_38 : decode cX1_fetch 38 = .ok (.iload_n 3, 1) := by decide +kernel
theorem dX1_fetch_39 : decode cX1_fetch 39 = .ok (.aload_n 0, 1) := by decide +kernel
theorem dX1_fetch_40 : decode cX1_fetch 40 = .ok (.getfield 36, 3) := by decide +kernel
theorem dX1_fetch_43 : decode cX1_fetch 43 = .ok (.if_icmp .ge 31, 3) := by decide +kernel
theorem dX1_fetch_46 : decode cX1_fetch 46 = .ok (.aload_n 0, 1) := by decide +kernel
theorem dX1_fetch_47 : decode cX1_fetch 47 = .ok (.getfield 13, 3) := by decide +kernel
theorem dX1_fetch_50 : decode cX1_fetch 50 = .ok (.bipush 8, 2) := by decide +kernel
theorem dX1_fetch_52 : decode cX1_fetch 52 = .ok (.iload_n 2, 1) := by decide +kernel
theorem dX1_fetch_53 : decode cX1_fetch 53 = .ok (.imul, 1) := by decide +kernel
theorem dX1_fetch_54 : decode cX1_fetch 54 = .ok (.iload_n 3, 1) := by decide +kernel
theorem dX1_fetch_55 : decode cX1_fetch 55 = .ok (.iadd, 1) := by decide +kernel
theorem dX1_fetch_56 : decode cX1_fetch 56 = .ok (.aload_n 0, 1) := by decide +kernel
theorem dX1_fetch_57 : decode cX1_fetch 57 = .ok (.getfield 7, 3) := by decide +kernel
theorem dX1_fetch_60 : decode cX1_fetch 60 = .ok (.bipush 8, 2) := by decide +kernel
theorem dX1_fetch_62 : decode cX1_fetch 62 = .ok (.iload_n 1, 1) := by decide +kernel
theorem dX1_fetch_63 : decode cX1_fetch 63 = .ok (.imul, 1) := by decide +kernel
theorem dX1_fetch_64 : decode cX1_fetch 64 = .ok (.iload_n 3, 1) := by decide +kernel
theorem dX1_fetch_65 : decode cX1_fetch 65 = .ok (.iadd, 1) := by decide +kernel
theorem dX1_fetch_66 : decode cX1_fetch 66 = .ok (.iaload, 1) := by decide +kernel
theorem dX1_fetch_67 : decode cX1_fetch 67 = .ok (.iastore, 1) := by decide +kernel
theorem dX1_fetch_68 : decode cX1_fetch 68 = .ok (.iinc 3 1, 3) := by decide +kernel
theorem dX1_fetch_71 : decode cX1_fetch 71 = .ok (.goto (-33), 3) := by decide +kernel
theorem dX1_fetch_74 : decode cX1_fetch 74 = .ok (.aload_n 0, 1) := by decide +kernel
theorem dX1_fetch_75 : decode cX1_fetch 75 = .ok (.getfield 16, 3) := by decide +kernel
theorem dX1_fetch_78 : decode cX1_fetch 78 = .ok (.iload_n 2, 1) := by decide +kernel
theorem dX1_fetch_79 : decode cX1_fetch 79 = .ok (.iload_n 1, 1) := by decide +kernel
theorem dX1_fetch_80 : decode cX1_fetch 80 = .ok (.iastore, 1) := by decide +kernel
theorem dX1_fetch_81 : decode cX1_fetch 81 = .ok (.aload_n 0, 1) := by decide +kernel
theorem dX1_fetch_82 : decode cX1_fetch 82 = .ok (.dup, 1) := by decide +kernel
theorem dX1_fetch_83 : decode cX1_fetch 83 = .ok (.getfield 49, 3) := by decide +kernel
theorem dX1_fetch_86 : decode cX1_fetch 86 = .ok (.iconst 1, 1) := by decide +kernel
theorem dX1_fetch_87 : decode cX1_fetch 87 = .ok (.iadd, 1) := by decide +kernel
theorem dX1_fetch_88 : decode cX1_fetch 88 = .ok (.putfield 49, 3) := by decide +kernel
theorem dX1_fetch_91 : decode cX1_fetch 91 = .ok (.aload_n 0, 1) := by decide +kernel
theorem dX1_fetch_92 : decode cX1_fetch 92 = .ok (.getfield 19, 3) := by decide +kernel
theorem dX1_fetch_95 : decode cX1_fetch 95 = .ok (.iload_n 2, 1) := by decide +kernel
theorem dX1_fetch_96 : decode cX1_fetch 96 = .ok (.dup2, 1) := by decide +kernel
theorem dX1_fetch_97 : decode cX1_fetch 97 = .ok (.iaload, 1) := by decide +kernel
theorem dX1_fetch_98 : decode cX1_fetch 98 = .ok (.iconst 1, 1) := by decide +kernel
theorem dX1_fetch_99 : decode cX1_fetch 99 = .ok (.iadd, 1) := by decide +kernel
theorem dX1_fetch_100 : decode cX1_fetch 100 = .ok (.iastore, 1) := by decide +kernel
theorem dX1_fetch_101 : decode cX1_fetch 101 = .ok (.aload_n 0, 1) := by decide +kernel
theorem dX1_fetch_102 : decode cX1_fetch 102 = .ok (.getfield 26, 3) := by decide +kernel
theorem dX1_fetch_105 : decode cX1_fetch 105 = .ok (.iload_n 2, 1) := by decide +kernel
theorem dX1_fetch_106 : decode cX1_fetch 106 = .ok (.iconst 1, 1) := by decide +kernel
theorem dX1_fetch_107 : decode cX1_fetch 107 = .ok (.bastore, 1) := by decide +kernel
theorem dX1_fetch_108 : decode cX1_fetch 108 = .ok (.iload_n 2, 1) := by decide +kernel
theorem dX1_fetch_109 : decode cX1_fetch 109 = .ok (.ireturn, 1) := by decide +kernel
set_option maxRecDepth 20000 in
theorem ggX1_unpin_X1_isPinned : GoodIn wsX1_unpin wsX1_isPinned := goodIn_r _ [6, 7, 1, 8, 9, 10, 11, 12, 13, 14, 15, 16, 17, 18, 19] (by decide +kernel) (by decide +kernel)
set_option maxRecDepth 20000 in
theorem gX1_unpin_X1_isPinned : GoodIn wsX1_unpin (wsV RX1 73 RX1 yX1_isPinned wsX1_isPinned) := goodIn_app (goodIn_of _ (by decide +kernel)) ggX1_unpin_X1_isPinned
theorem dX1_unpin_0 : decode cX1_unpin 0 = .ok (.aload_n 0, 1) := by decide +kernel
theorem dX1_unpin_1 : decode cX1_unpin 1 = .ok (.iload_n 1, 1) := by decide +kernel
theorem dX1_unpin_2 : decode cX1_unpin 2 = .ok (.invokevirtual 73, 3) := by decide +kernel
theorem dX1_unpin_5 : decode cX1_unpin 5 = .ok (.ifCond .ne 6, 3) := by decide +kernel
theorem dX1_unpin_8 : decode cX1_unpin 8 = .ok (.bipush (-3), 2) := by decide +kernel
theorem dX1_unpin_10 : decode cX1_unpin 10 = .ok (.ireturn, 1) := by decide +kernel
theorem dX1_unpin_11 : decode cX1_unpin 11 = .ok (.aload_n 0, 1) := by decide +kernel
theorem dX1_unpin_12 : decode cX1_unpin 12 = .ok (.getfield 19, 3) := by decide +kernel
theorem dX1_unpin_15 : decode cX1_unpin 15 = .ok (.iload_n 1, 1) := by decide +kernel
theorem dX1_unpin_16 : decode cX1_unpin 16 = .ok (.dup2, 1) := by decide +kernel
theorem dX1_unpin_17 : decode cX1_unpin 17 = .ok (.iaload, 1) := by decide +kernel
theorem dX1_unpin_18 : decode cX1_unpin 18 = .ok (.iconst 1, 1) := by decide +kernel
theorem dX1_unpin_19 : decode cX1_unpin 19 = .ok (.isub, 1) := by decide +kernel
theorem dX1_unpin_20 : decode cX1_unpin 20 = .ok (.iastore, 1) := by decide +kernel
theorem dX1_unpin_21 : decode cX1_unpin 21 = .ok (.aload_n 0, 1) := by decide +kernel
theorem dX1_unpin_22 : decode cX1_unpin 22 = .ok (.getfield 19, 3) := by decide +kernel
theorem dX1_unpin_25 : decode cX1_unpin 25 = .ok (.iload_n 1, 1) := by decide +kernel
theorem dX1_unpin_26 : decode cX1_unpin 26 = .ok (.iaload, 1) := by decide +kernel
theorem dX1_unpin_27 : decode cX1_unpin 27 = .ok (.ireturn, 1) := by decide +kernel
set_option maxRecDepth 20000 in
theorem ggX1_readWord_X1_isPinned : GoodIn wsX1_readWord wsX1_isPinned := goodIn_r _ [7, 8, 9, 10, 11, 12, 13, 14, 15, 16, 17, 18, 19, 20, 21] (by decide +kernel) (by decide +kernel)
set_option maxRecDepth 20000 in
theorem gX1_readWord_X1_isPinned : GoodIn wsX1_readWord (wsV RX1 73 RX1 yX1_isPinned wsX1_isPinned) := goodIn_app (goodIn_of _ (by decide +kernel)) ggX1_readWord_X1_isPinned
theorem dX1_readWord_0 : decode cX1_readWord 0 = .ok (.aload_n 0, 1) := by decide +kernel
theorem dX1_readWord_1 : decode cX1_readWord 1 = .ok (.iload_n 1, 1) := by decide +kernel
theorem dX1_readWord_2 : decode cX1_readWord 2 = .ok (.invokevirtual 73, 3) := by decide +kernel
theorem dX1_readWord_5 : decode cX1_readWord 5 = .ok (.ifCond .eq 15, 3) := by decide +kernel
theorem dX1_readWord_8 : decode cX1_readWord 8 = .ok (.iload_n 2, 1) := by decide +kernel
theorem dX1_readWord_9 : decode cX1_readWord 9 = .ok (.ifCond .lt 11, 3) := by decide +kernel
theorem dX1_readWord_12 : decode cX1_readWord 12 = .ok (.iload_n 2, 1) := by decide +kernel
theorem dX1_readWord_13 : decode cX1_readWord 13 = .ok (.aload_n 0, 1) := by decide +kernel
theorem dX1_readWord_14 : decode cX1_readWord 14 = .ok (.getfield 36, 3) := by decide +kernel
theorem dX1_readWord_17 : decode cX1_readWord 17 = .ok (.if_icmp .lt 7, 3) := by decide +kernel
theorem dX1_readWord_20 : decode cX1_readWord 20 = .ok (.iconst 0, 1) := by decide +kernel
theorem dX1_readWord_21 : decode cX1_readWord 21 = .ok (.goto 14, 3) := by decide +kernel
theorem dX1_readWord_24 : decode cX1_readWord 24 = .ok (.aload_n 0, 1) := by decide +kernel
theorem dX1_readWord_25 : decode cX1_readWord 25 = .ok (.getfield 13, 3) := by decide +kernel
theorem dX1_readWord_28 : decode cX1_readWord 28 = .ok (.bipush 8, 2) := by decide +kernel
theorem dX1_readWord_30 : decode cX1_readWord 30 = .ok (.iload_n 1, 1) := by decide +kernel
theorem dX1_readWord_31 : decode cX1_readWord 31 = .ok (.imul, 1) := by decide +kernel
theorem dX1_readWord_32 : decode cX1_readWord 32 = .ok (.iload_n 2, 1) := by decide +kernel
theorem dX1_readWord_33 : decode cX1_readWord 33 = .ok (.iadd, 1) := by decide +kernel
theorem dX1_readWord_34 : decode cX1_readWord 34 = .ok (.iaload, 1) := by decide +kernel
theorem dX1_readWord_35 : decode cX1_readWord 35 = .ok (.ireturn, 1) := by decide +kernel
set_option maxRecDepth 20000 in
theorem ggX1_writeWord_X1_isPinned : GoodIn wsX1_writeWord wsX1_isPinned := goodIn_r _ [8, 9, 10, 11, 12, 13, 14, 15, 16, 17, 18, 19, 20, 21, 22] (by decide +kernel) (by decide +kernel)
set_option maxRecDepth 20000 in
theorem gX1_writeWord_X1_isPinned : GoodIn wsX1_writeWord (wsV RX1 73 RX1 yX1_isPinned wsX1_isPinned) := goodIn_app (goodIn_of _ (by decide +kernel)) ggX1_writeWord_X1_isPinned
theorem dX1_writeWord_0 : decode cX1_writeWord 0 = .ok (.aload_n 0, 1) := by decide +kernel
theorem dX1_writeWord_1 : decode cX1_writeWord 1 = .ok (.iload_n 1, 1) := by decide +kernel
theorem dX1_writeWord_2 : decode cX1_writeWord 2 = .ok (.invokevirtual 73, 3) := by decide +kernel
theorem dX1_writeWord_5 : decode cX1_writeWord 5 = .ok (.ifCond .ne 6, 3) := by decide +kernel
theorem dX1_writeWord_8 : decode cX1_writeWord 8 = .ok (.bipush (-3), 2) := by decide +kernel
theorem dX1_writeWord_10 : decode cX1_writeWord 10 = .ok (.ireturn, 1) := by decide +kernel
theorem dX1_writeWord_11 : decode cX1_writeWord 11 = .ok (.iload_n 2, 1) := by decide +kernel
theorem dX1_writeWord_12 : decode cX1_writeWord 12 = .ok (.ifCond .lt 11, 3) := by decide +kernel
theorem dX1_writeWord_15 : decode cX1_writeWord 15 = .ok (.iload_n 2, 1) := by decide +kernel
theorem dX1_writeWord_16 : decode cX1_writeWord 16 = .ok (.aload_n 0, 1) := by decide +kernel
theorem dX1_writeWord_17 : decode cX1_writeWord 17 = .ok (.getfield 36, 3) := by decide +kernel
theorem dX1_writeWord_20 : decode cX1_writeWord 20 = .ok (.if_icmp .lt 6, 3) := by decide +kernel
theorem dX1_writeWord_23 : decode cX1_writeWord 23 = .ok (.bipush (-4), 2) := by decide +kernel
theorem dX1_writeWord_25 : decode cX1_writeWord 25 = .ok (.ireturn, 1) := by decide +kernel
theorem dX1_writeWord_26 : decode cX1_writeWord 26 = .ok (.aload_n 0, 1) := by decide +kernel
theorem dX1_writeWord_27 : decode cX1_writeWord 27 = .ok (.getfield 13, 3) := by decide +kernel
theorem dX1_writeWord_30 : decode cX1_writeWord 30 = .ok (.bipush 8, 2) := by decide +kernel
theorem dX1_writeWord_32 : decode cX1_writeWord 32 = .ok (.iload_n 1, 1) := by decide +kernel
theorem dX1_writeWord_33 : decode cX1_writeWord 33 = .ok (.imul, 1) := by decide +kernel
theorem dX1_writeWord_34 : decode cX1_writeWord 34 = .ok (.iload_n 2, 1) := by decide +kernel
theorem dX1_writeWord_35 : decode cX1_writeWord 35 = .ok (.iadd, 1) := by decide +kernel
theorem dX1_writeWord_36 : decode cX1_writeWord 36 = .ok (.iload_n 3, 1) := by decide +kernel
theorem dX1_writeWord_37 : decode cX1_writeWord 37 = .ok (.iastore, 1) := by decide +kernel
theorem dX1_writeWord_38 : decode cX1_writeWord 38 = .ok (.aload_n 0, 1) := by decide +kernel
theorem dX1_writeWord_39 : decode cX1_writeWord 39 = .ok (.getfield 22, 3) := by decide +kernel
theorem dX1_writeWord_42 : decode cX1_writeWord 42 = .ok (.iload_n 1, 1) := by decide +kernel
theorem dX1_writeWord_43 : decode cX1_writeWord 43 = .ok (.iconst 1, 1) := by decide +kernel
theorem dX1_writeWord_44 : decode cX1_writeWord 44 = .ok (.bastore, 1) := by decide +kernel
theorem dX1_writeWord_45 : decode cX1_writeWord 45 = .ok (.iconst 0, 1) := by decide +kernel
theorem dX1_writeWord_46 : decode cX1_writeWord 46 = .ok (.ireturn, 1) := by decide +kernel
set_option maxRecDepth 20000 in
theorem ggX1_flush_X1_frameOf : GoodIn wsX1_flush wsX1_frameOf := goodIn_r _ [6, 7, 8, 17, 18, 19, 20, 21, 22, 23, 24, 25, 26, 27, 28] (by decide +kernel) (by decide +kernel)
set_option maxRecDepth 20000 in
theorem gX1_flush_X1_frameOf : GoodIn wsX1_flush (wsV RX1 66 RX1 yX1_frameOf wsX1_frameOf) := goodIn_app (goodIn_of _ (by decide +kernel)) ggX1_flush_X1_frameOf
set_option maxRecDepth 20000 in
theorem ggX1_flush_X1_store : GoodIn wsX1_flush wsX1_store := goodIn_r _ [12, 13, 14, 8, 15, 1, 16, 17, 18, 19, 20, 21, 22, 23, 24, 25, 26, 27, 28] (by decide +kernel) (by decide +kernel)
set_option maxRecDepth 20000 in
theorem gX1_flush_X1_store : GoodIn wsX1_flush (wsV RX1 59 RX1 yX1_store wsX1_store) := goodIn_app (goodIn_of _ (by decide +kernel)) ggX1_flush_X1_store
theorem dX1_flush_0 : decode cX1_flush 0 = .ok (.aload_n 0, 1) := by decide +kernel
theorem dX1_flush_1 : decode cX1_flush 1 = .ok (.iload_n 1, 1) := by decide +kernel
theorem dX1_flush_2 : decode cX1_flush 2 = .ok (.invokevirtual 66, 3) := by decide +kernel
theorem dX1_flush_5 : decode cX1_flush 5 = .ok (.istore_n 2, 1) := by decide +kernel
theorem dX1_flush_6 : decode cX1_flush 6 = .ok (.iload_n 2, 1) := by decide +kernel
theorem dX1_flush_7 : decode cX1_flush 7 = .ok (.bipush (-5), 2) := by decide +kernel
theorem dX1_flush_9 : decode cX1_flush 9 = .ok (.if_icmp .eq 12, 3) := by decide +kernel
theorem dX1_flush_12 : decode cX1_flush 12 = .ok (.aload_n 0, 1) := by decide +kernel
theorem dX1_flush_13 : decode cX1_flush 13 = .ok (.getfield 22, 3) := by decide +kernel
theorem dX1_flush_16 : decode cX1_flush 16 = .ok (.iload_n 2, 1) := by decide +kernel
theorem dX1_flush_17 : decode cX1_flush 17 = .ok (.baload, 1) := by decide +kernel
theorem dX1_flush_18 : decode cX1_flush 18 = .ok (.ifCond .ne 5, 3) := by decide +kernel
theorem dX1_flush_21 : decode cX1_flush 21 = .ok (.iconst 0, 1) := by decide +kernel
theorem dX1_flush_22 : decode cX1_flush 22 = .ok (.ireturn, 1) := by decide +kernel
theorem dX1_flush_23 : decode cX1_flush 23 = .ok (.aload_n 0, 1) := by decide +kernel
theorem dX1_flush_24 : decode cX1_flush 24 = .ok (.iload_n 2, 1) := by decide +kernel
theorem dX1_flush_25 : decode cX1_flush 25 = .ok (.invokevirtual 59, 3) := by decide +kernel
theorem dX1_flush_28 : decode cX1_flush 28 = .ok (.iconst 1, 1) := by decide +kernel
theorem dX1_flush_29 : decode cX1_flush 29 = .ok (.ireturn, 1) := by decide +kernel
set_option maxRecDepth 20000 in
theorem ggX1_flushAll_X1_flush : GoodIn wsX1_flushAll wsX1_flush := goodIn_r _ [7, 8, 9, 10, 11, 6, 12, 1, 2, 13, 14, 15, 16, 17, 18, 19, 20, 21, 22, 23, 24, 25, 26, 27, 28, 29, 30, 31, 32] (by decide +kernel) (by decide +kernel)
set_option maxRecDepth 20000 in
theorem gX1_flushAll_X1_flush : GoodIn wsX1_flushAll (wsV RX1 76 RX1 yX1_flush wsX1_flush) := goodIn_app (goodIn_of _ (by decide +kernel)) ggX1_flushAll_X1_flush
theorem dX1_flushAll_0 : decode cX1_flushAll 0 = .ok (.iconst 0, 1) := by decide +kernel
theorem dX1_flushAll_1 : decode cX1_flushAll 1 = .ok (.istore_n 1, 1) := by decide +kernel
theorem dX1_flushAll_2 : decode cX1_flushAll 2 = .ok (.iconst 0, 1) := by decide +kernel
theorem dX1_flushAll_3 : decode cX1_flushAll 3 = .ok (.istore_n 2, 1) := by decide +kernel
theorem dX1_flushAll_4 : decode cX1_flushAll 4 = .ok (.iload_n 2, 1) := by decide +kernel
theorem dX1_flushAll_5 : decode cX1_flushAll 5 = .ok (.aload_n 0, 1) := by decide +kernel
theorem dX1_flushAll_6 : decode cX1_flushAll 6 = .ok (.getfield 29, 3) := by decide +kernel
theorem dX1_flushAll_9 : decode cX1_flushAll 9 = .ok (.if_icmp .ge 36, 3) := by decide +kernel
theorem dX1_flushAll_12 : decode cX1_flushAll 12 = .ok (.iload_n 1, 1) := by decide +kernel
theorem dX1_flushAll_13 : decode cX1_flushAll 13 = .ok (.aload_n 0, 1) := by decide +kernel
theorem dX1_flushAll_14 : decode cX1_flushAll 14 = .ok (.getfield 16, 3) := by decide +kernel
theorem dX1_flushAll_17 : decode cX1_flushAll 17 = .ok (.iload_n 2, 1) := by decide +kernel
theorem dX1_flushAll_18 : decode cX1_flushAll 18 = .ok (.iaload, 1) := by decide +kernel
theorem dX1_flushAll_19 : decode cX1_flushAll 19 = .ok (.iconst (-1), 1) := by decide +kernel
theorem dX1_flushAll_20 : decode cX1_flushAll 20 = .ok (.if_icmp .ne 7, 3) := by decide +kernel
theorem dX1_flushAll_23 : decode cX1_flushAll 23 = .ok (.iconst 0, 1) := by decide +kernel
theorem dX1_flushAll_24 : decode cX1_flushAll 24 = .ok (.goto 13, 3) := by decide +kernel
theorem dX1_flushAll_27 : decode cX1_flushAll 27 = .ok (.aload_n 0, 1) := by decide +kernel
theorem dX1_flushAll_28 : decode cX1_flushAll 28 = .ok (.aload_n 0, 1) := by decide +kernel
theorem dX1_flushAll_29 : decode cX1_flushAll 29 = .ok (.getfield 16, 3) := by decide +kernel
theorem dX1_flushAll_32 : decode cX1_flushAll 32 = .ok (.iload_n 2, 1) := by decide +kernel
theorem dX1_flushAll_33 : decode cX1_flushAll 33 = .ok (.iaload, 1) := by decide +kernel
theorem dX1_flushAll_34 : decode cX1_flushAll 34 = .ok (.invokevirtual 76, 3) := by decide +kernel
theorem dX1_flushAll_37 : decode cX1_flushAll 37 = .ok (.iadd, 1) := by decide +kernel
theorem dX1_flushAll_38 : decode cX1_flushAll 38 = .ok (.istore_n 1, 1) := by decide +kernel
theorem dX1_flushAll_39 : decode cX1_flushAll 39 = .ok (.iinc 2 1, 3) := by decide +kernel
theorem dX1_flushAll_42 : decode cX1_flushAll 42 = .ok (.goto (-38), 3) := by decide +kernel
theorem dX1_flushAll_45 : decode cX1_flushAll 45 = .ok (.iload_n 1, 1) := by decide +kernel
theorem dX1_flushAll_46 : decode cX1_flushAll 46 = .ok (.ireturn, 1) := by decide +kernel
set_option maxRecDepth 20000 in
theorem ggX1_drop_X1_frameOf : GoodIn wsX1_drop wsX1_frameOf := goodIn_r _ [6, 7, 8, 15, 16, 17, 18, 19, 20, 21, 22, 23, 24, 25, 26] (by decide +kernel) (by decide +kernel)
set_option maxRecDepth 20000 in
theorem gX1_drop_X1_frameOf : GoodIn wsX1_drop (wsV RX1 66 RX1 yX1_frameOf wsX1_frameOf) := goodIn_app (goodIn_of _ (by decide +kernel)) ggX1_drop_X1_frameOf
set_option maxRecDepth 20000 in
theorem ggX1_drop_X1_empty : GoodIn wsX1_drop wsX1_empty := goodIn_r _ [12, 8, 1, 13, 14, 15, 16, 17, 18, 19, 20, 21, 22, 23, 24, 25, 26] (by decide +kernel) (by decide +kernel)
set_option maxRecDepth 20000 in
theorem gX1_drop_X1_empty : GoodIn wsX1_drop (wsV RX1 42 RX1 yX1_empty wsX1_empty) := goodIn_app (goodIn_of _ (by decide +kernel)) ggX1_drop_X1_empty
theorem dX1_drop_0 : decode cX1_drop 0 = .ok (.aload_n 0, 1) := by decide +kernel
theorem dX1_drop_1 : decode cX1_drop 1 = .ok (.iload_n 1, 1) := by decide +kernel
theorem dX1_drop_2 : decode cX1_drop 2 = .ok (.invokevirtual 66, 3) := by decide +kernel
theorem dX1_drop_5 : decode cX1_drop 5 = .ok (.istore_n 2, 1) := by decide +kernel
theorem dX1_drop_6 : decode cX1_drop 6 = .ok (.iload_n 2, 1) := by decide +kernel
theorem dX1_drop_7 : decode cX1_drop 7 = .ok (.bipush (-5), 2) := by decide +kernel
theorem dX1_drop_9 : decode cX1_drop 9 = .ok (.if_icmp .eq 12, 3) := by decide +kernel
theorem dX1_drop_12 : decode cX1_drop 12 = .ok (.aload_n 0, 1) := by decide +kernel
theorem dX1_drop_13 : decode cX1_drop 13 = .ok (.getfield 19, 3) := by decide +kernel
theorem dX1_drop_16 : decode cX1_drop 16 = .ok (.iload_n 2, 1) := by decide +kernel
theorem dX1_drop_17 : decode cX1_drop 17 = .ok (.iaload, 1) := by decide +kernel
theorem dX1_drop_18 : decode cX1_drop 18 = .ok (.ifCond .le 5, 3) := by decide +kernel
theorem dX1_drop_21 : decode cX1_drop 21 = .ok (.iconst 0, 1) := by decide +kernel
theorem dX1_drop_22 : decode cX1_drop 22 = .ok (.ireturn, 1) := by decide +kernel
theorem dX1_drop_23 : decode cX1_drop 23 = .ok (.aload_n 0, 1) := by decide +kernel
theorem dX1_drop_24 : decode cX1_drop 24 = .ok (.iload_n 2, 1) := by decide +kernel
theorem dX1_drop_25 : decode cX1_drop 25 = .ok (.invokevirtual 42, 3) := by decide +kernel
theorem dX1_drop_28 : decode cX1_drop 28 = .ok (.iconst 1, 1) := by decide +kernel
theorem dX1_drop_29 : decode cX1_drop 29 = .ok (.ireturn, 1) := by decide +kernel
set_option maxRecDepth 20000 in
theorem ggX1_copy_X1_isPage : GoodIn wsX1_copy wsX1_isPage := goodIn_r _ [10, 11, 18, 19, 20, 21, 22, 23, 24, 25, 26, 27, 28, 29] (by decide +kernel) (by decide +kernel)
set_option maxRecDepth 20000 in
theorem gX1_copy_X1_isPage : GoodIn wsX1_copy (wsV RX1 62 RX1 yX1_isPage wsX1_isPage) := goodIn_app (goodIn_of _ (by decide +kernel)) ggX1_copy_X1_isPage
set_option maxRecDepth 20000 in
theorem ggX1_copy_X1_frameOf : GoodIn wsX1_copy wsX1_frameOf := goodIn_r _ [15, 16, 17, 18, 19, 20, 21, 22, 23, 24, 25, 26, 27, 28, 29] (by decide +kernel) (by decide +kernel)
set_option maxRecDepth 20000 in
theorem gX1_copy_X1_frameOf : GoodIn wsX1_copy (wsV RX1 66 RX1 yX1_frameOf wsX1_frameOf) := goodIn_app (goodIn_of _ (by decide +kernel)) ggX1_copy_X1_frameOf
theorem dX1_copy_0 : decode cX1_copy 0 = .ok (.aload_n 0, 1) := by decide +kernel
theorem dX1_copy_1 : decode cX1_copy 1 = .ok (.iload_n 1, 1) := by decide +kernel
theorem dX1_copy_2 : decode cX1_copy 2 = .ok (.invokevirtual 62, 3) := by decide +kernel
theorem dX1_copy_5 : decode cX1_copy 5 = .ok (.ifCond .eq 11, 3) := by decide +kernel
theorem dX1_copy_8 : decode cX1_copy 8 = .ok (.aload_n 0, 1) := by decide +kernel
theorem dX1_copy_9 : decode cX1_copy 9 = .ok (.iload_n 2, 1) := by decide +kernel
theorem dX1_copy_10 : decode cX1_copy 10 = .ok (.invokevirtual 62, 3) := by decide +kernel
theorem dX1_copy_13 : decode cX1_copy 13 = .ok (.ifCond .ne 6, 3) := by decide +kernel
theorem dX1_copy_16 : decode cX1_copy 16 = .ok (.bipush (-2), 2) := by decide +kernel
theorem dX1_copy_18 : decode cX1_copy 18 = .ok (.ireturn, 1) := by decide +kernel
theorem dX1_copy_19 : decode cX1_copy 19 = .ok (.aload_n 0, 1) := by decide +kernel
theorem dX1_copy_20 : decode cX1_copy 20 = .ok (.iload_n 1, 1) := by decide +kernel
theorem dX1_copy_21 : decode cX1_copy 21 = .ok (.invokevirtual 66, 3) := by decide +kernel
theorem dX1_copy_24 : decode cX1_copy 24 = .ok (.istore_n 3, 1) := by decide +kernel
theorem dX1_copy_25 : decode cX1_copy 25 = .ok (.iload_n 3, 1) := by decide +kernel
theorem dX1_copy_26 : decode cX1_copy 26 = .ok (.bipush (-5), 2) := by decide +kernel
theorem dX1_copy_28 : decode cX1_copy 28 = .ok (.if_icmp .eq 12, 3) := by decide +kernel
theorem dX1_copy_31 : decode cX1_copy 31 = .ok (.aload_n 0, 1) := by decide +kernel
theorem dX1_copy_32 : decode cX1_copy 32 = .ok (.getfield 19, 3) := by decide +kernel
theorem dX1_copy_35 : decode cX1_copy 35 = .ok (.iload_n 3, 1) := by decide +kernel
theorem dX1_copy_36 : decode cX1_copy 36 = .ok (.iaload, 1) := by decide +kernel
theorem dX1_copy_37 : decode cX1_copy 37 = .ok (.ifCond .ne 6, 3) := by decide +kernel
theorem dX1_copy_40 : decode cX1_copy 40 = .ok (.bipush (-3), 2) := by decide +kernel
theorem dX1_copy_42 : decode cX1_copy 42 = .ok (.ireturn, 1) := by decide +kernel
theorem dX1_copy_43 : decode cX1_copy 43 = .ok (.aload_n 0, 1) := by decide +kernel
theorem dX1_copy_44 : decode cX1_copy 44 = .ok (.iload_n 2, 1) := by decide +kernel
theorem dX1_copy_45 : decode cX1_copy 45 = .ok (.invokevirtual 66, 3) := by decide +kernel
theorem dX1_copy_48 : decode cX1_copy 48 = .ok (.istore 4, 2) := by decide +kernel
theorem dX1_copy_50 : decode cX1_copy 50 = .ok (.iconst 0, 1) := by decide +kernel
theorem dX1_copy_51 : decode cX1_copy 51 = .ok (.istore 5, 2) := by decide +kernel
theorem dX1_copy_53 : decode cX1_copy 53 = .ok (.iload 5, 2) := by decide +kernel
theorem dX1_copy_55 : decode cX1_copy 55 = .ok (.aload_n 0, 1) := by decide +kernel
theorem dX1_copy_56 : decode cX1_copy 56 = .ok (.getfield 36, 3) := by decide +kernel
theorem dX1_copy_59 : decode cX1_copy 59 = .ok (.if_icmp .ge 56, 3) := by decide +kernel
theorem dX1_copy_62 : decode cX1_copy 62 = .ok (.aload_n 0, 1) := by decide +kernel
theorem dX1_copy_63 : decode cX1_copy 63 = .ok (.getfield 13, 3) := by decide +kernel
theorem dX1_copy_66 : decode cX1_copy 66 = .ok (.bipush 8, 2) := by decide +kernel
theorem dX1_copy_68 : decode cX1_copy 68 = .ok (.iload_n 3, 1) := by decide +kernel
theorem dX1_copy_69 : decode cX1_copy 69 = .ok (.imul, 1) := by decide +kernel
theorem dX1_copy_70 : decode cX1_copy 70 = .ok (.iload 5, 2) := by decide +kernel
theorem dX1_copy_72 : decode cX1_copy 72 = .ok (.iadd, 1) := by decide +kernel
theorem dX1_copy_73 : decode cX1_copy 73 = .ok (.iload 4, 2) := by decide +kernel
theorem dX1_copy_75 : decode cX1_copy 75 = .ok (.bipush (-5), 2) := by decide +kernel
theorem dX1_copy_77 : decode cX1_copy 77 = .ok (.if_icmp .ne 18, 3) := by decide +kernel
theorem dX1_copy_80 : decode cX1_copy 80 = .ok (.aload_n 0, 1) := by decide +kernel
theorem dX1_copy_81 : decode cX1_copy 81 = .ok (.getfield 7, 3) := by decide +kernel
theorem dX1_copy_84 : decode cX1_copy 84 = .ok (.bipush 8, 2) := by decide +kernel
theorem dX1_copy_86 : decode cX1_copy 86 = .ok (.iload_n 2, 1) := by decide +kernel
theorem dX1_copy_87 : decode cX1_copy 87 = .ok (.imul, 1) := by decide +kernel
theorem dX1_copy_88 : decode cX1_copy 88 = .ok (.iload 5, 2) := by decide +kernel
theorem dX1_copy_90 : decode cX1_copy 90 = .ok (.iadd, 1) := by decide +kernel
theorem dX1_copy_91 : decode cX1_copy 91 = .ok (.iaload, 1) := by decide +kernel
theorem dX1_copy_92 : decode cX1_copy 92 = .ok (.goto 16, 3) := by decide +kernel
theorem dX1_copy_95 : decode cX1_copy 95 = .ok (.aload_n 0, 1) := by decide +kernel
theorem dX1_copy_96 : decode cX1_copy 96 = .ok (.getfield 13, 3) := by decide +kernel
theorem dX1_copy_99 : decode cX1_copy 99 = .ok (.bipush 8, 2) := by decide +kernel
theorem dX1_copy_101 : decode cX1_copy 101 = .ok (.iload 4, 2) := by decide +kernel
theorem dX1_copy_103 : decode cX1_copy 103 = .ok (.imul, 1) := by decide +kernel
theorem dX1_copy_104 : decode cX1_copy 104 = .ok (.iload 5, 2) := by decide +kernel
theorem dX1_copy_106 : decode cX1_copy 106 = .ok (.iadd, 1) := by decide +kernel
theorem dX1_copy_107 : decode cX1_copy 107 = .ok (.iaload, 1) := by decide +kernel
theorem dX1_copy_108 : decode cX1_copy 108 = .ok (.iastore, 1) := by decide +kernel
theorem dX1_copy_109 : decode cX1_copy 109 = .ok (.iinc 5 1, 3) := by decide +kernel
theorem dX1_copy_112 : decode cX1_copy 112 = .ok (.goto (-59), 3) := by decide +kernel
theorem dX1_copy_115 : decode cX1_copy 115 = .ok (.aload_n 0, 1) := by decide +kernel
theorem dX1_copy_116 : decode cX1_copy 116 = .ok (.getfield 22, 3) := by decide +kernel
theorem dX1_copy_119 : decode cX1_copy 119 = .ok (.iload_n 3, 1) := by decide +kernel
theorem dX1_copy_120 : decode cX1_copy 120 = .ok (.iconst 1, 1) := by decide +kernel
theorem dX1_copy_121 : decode cX1_copy 121 = .ok (.bastore, 1) := by decide +kernel
theorem dX1_copy_122 : decode cX1_copy 122 = .ok (.iconst 0, 1) := by decide +kernel
theorem dX1_copy_123 : decode cX1_copy 123 = .ok (.ireturn, 1) := by decide +kernel
set_option maxRecDepth 20000 in
theorem ggX1_diskWord_X1_isPage : GoodIn wsX1_diskWord wsX1_isPage := goodIn_r _ [7, 8, 9, 10, 11, 12, 13, 14, 15, 16, 17, 18, 19, 20] (by decide +kernel) (by decide +kernel)
set_option maxRecDepth 20000 in
theorem gX1_diskWord_X1_isPage : GoodIn wsX1_diskWord (wsV RX1 62 RX1 yX1_isPage wsX1_isPage) := goodIn_app (goodIn_of _ (by decide +kernel)) ggX1_diskWord_X1_isPage
theorem dX1_diskWord_0 : decode cX1_diskWord 0 = .ok (.aload_n 0, 1) := by decide +kernel
theorem dX1_diskWord_1 : decode cX1_diskWord 1 = .ok (.iload_n 1, 1) := by decide +kernel
theorem dX1_diskWord_2 : decode cX1_diskWord 2 = .ok (.invokevirtual 62, 3) := by decide +kernel
theorem dX1_diskWord_5 : decode cX1_diskWord 5 = .ok (.ifCond .eq 15, 3) := by decide +kernel
theorem dX1_diskWord_8 : decode cX1_diskWord 8 = .ok (.iload_n 2, 1) := by decide +kernel
theorem dX1_diskWord_9 : decode cX1_diskWord 9 = .ok (.ifCond .lt 11, 3) := by decide +kernel
theorem dX1_diskWord_12 : decode cX1_diskWord 12 = .ok (.iload_n 2, 1) := by decide +kernel
theorem dX1_diskWord_13 : decode cX1_diskWord 13 = .ok (.aload_n 0, 1) := by decide +kernel
theorem dX1_diskWord_14 : decode cX1_diskWord 14 = .ok (.getfield 36, 3) := by decide +kernel
theorem dX1_diskWord_17 : decode cX1_diskWord 17 = .ok (.if_icmp .lt 7, 3) := by decide +kernel
theorem dX1_diskWord_20 : decode cX1_diskWord 20 = .ok (.iconst 0, 1) := by decide +kernel
theorem dX1_diskWord_21 : decode cX1_diskWord 21 = .ok (.goto 14, 3) := by decide +kernel
theorem dX1_diskWord_24 : decode cX1_diskWord 24 = .ok (.aload_n 0, 1) := by decide +kernel
theorem dX1_diskWord_25 : decode cX1_diskWord 25 = .ok (.getfield 7, 3) := by decide +kernel
theorem dX1_diskWord_28 : decode cX1_diskWord 28 = .ok (.bipush 8, 2) := by decide +kernel
theorem dX1_diskWord_30 : decode cX1_diskWord 30 = .ok (.iload_n 1, 1) := by decide +kernel
theorem dX1_diskWord_31 : decode cX1_diskWord 31 = .ok (.imul, 1) := by decide +kernel
theorem dX1_diskWord_32 : decode cX1_diskWord 32 = .ok (.iload_n 2, 1) := by decide +kernel
theorem dX1_diskWord_33 : decode cX1_diskWord 33 = .ok (.iadd, 1) := by decide +kernel
theorem dX1_diskWord_34 : decode cX1_diskWord 34 = .ok (.iaload, 1) := by decide +kernel
theorem dX1_diskWord_35 : decode cX1_diskWord 35 = .ok (.ireturn, 1) := by decide +kernel
set_option maxRecDepth 20000 in
theorem ggX1_resident_X1_frameOf : GoodIn wsX1_resident wsX1_frameOf := goodIn_r _ [5, 6, 7, 8, 9, 10, 11, 12, 13, 14, 15, 16, 17, 18, 19] (by decide +kernel) (by decide +kernel)
set_option maxRecDepth 20000 in
theorem gX1_resident_X1_frameOf : GoodIn wsX1_resident (wsV RX1 66 RX1 yX1_frameOf wsX1_frameOf) := goodIn_app (goodIn_of _ (by decide +kernel)) ggX1_resident_X1_frameOf
theorem dX1_resident_0 : decode cX1_resident 0 = .ok (.aload_n 0, 1) := by decide +kernel
theorem dX1_resident_1 : decode cX1_resident 1 = .ok (.iload_n 1, 1) := by decide +kernel
theorem dX1_resident_2 : decode cX1_resident 2 = .ok (.invokevirtual 66, 3) := by decide +kernel
theorem dX1_resident_5 : decode cX1_resident 5 = .ok (.bipush (-5), 2) := by decide +kernel
theorem dX1_resident_7 : decode cX1_resident 7 = .ok (.if_icmp .eq 7, 3) := by decide +kernel
theorem dX1_resident_10 : decode cX1_resident 10 = .ok (.iconst 1, 1) := by decide +kernel
theorem dX1_resident_11 : decode cX1_resident 11 = .ok (.goto 4, 3) := by decide +kernel
theorem dX1_resident_14 : decode cX1_resident 14 = .ok (.iconst 0, 1) := by decide +kernel
theorem dX1_resident_15 : decode cX1_resident 15 = .ok (.ireturn, 1) := by decide +kernel
theorem dX1_diskReads_0 : decode cX1_diskReads 0 = .ok (.aload_n 0, 1) := by decide +kernel
theorem dX1_diskReads_1 : decode cX1_diskReads 1 = .ok (.getfield 49, 3) := by decide +kernel
theorem dX1_diskReads_4 : decode cX1_diskReads 4 = .ok (.ireturn, 1) := by decide +kernel
theorem dX1_diskWrites_0 : decode cX1_diskWrites 0 = .ok (.aload_n 0, 1) := by decide +kernel
theorem dX1_diskWrites_1 : decode cX1_diskWrites 1 = .ok (.getfield 52, 3) := by decide +kernel
theorem dX1_diskWrites_4 : decode cX1_diskWrites 4 = .ok (.ireturn, 1) := by decide +kernel
theorem dX1_told_0 : decode cX1_told 0 = .ok (.iload_n 1, 1) := by decide +kernel
theorem dX1_told_1 : decode cX1_told 1 = .ok (.ifCond .lt 11, 3) := by decide +kernel
theorem dX1_told_4 : decode cX1_told 4 = .ok (.iload_n 1, 1) := by decide +kernel
theorem dX1_told_5 : decode cX1_told 5 = .ok (.aload_n 0, 1) := by decide +kernel
theorem dX1_told_6 : decode cX1_told 6 = .ok (.getfield 29, 3) := by decide +kernel
theorem dX1_told_9 : decode cX1_told 9 = .ok (.if_icmp .lt 6, 3) := by decide +kernel
theorem dX1_told_12 : decode cX1_told 12 = .ok (.bipush (-5), 2) := by decide +kernel
theorem dX1_told_14 : decode cX1_told 14 = .ok (.ireturn, 1) := by decide +kernel
theorem dX1_told_15 : decode cX1_told 15 = .ok (.iload_n 2, 1) := by decide +kernel
theorem dX1_told_16 : decode cX1_told 16 = .ok (.ifCond .ne 12, 3) := by decide +kernel
theorem dX1_told_19 : decode cX1_told 19 = .ok (.aload_n 0, 1) := by decide +kernel
theorem dX1_told_20 : decode cX1_told 20 = .ok (.getfield 16, 3) := by decide +kernel
theorem dX1_told_23 : decode cX1_told 23 = .ok (.iload_n 1, 1) := by decide +kernel
theorem dX1_told_24 : decode cX1_told 24 = .ok (.iaload, 1) := by decide +kernel
theorem dX1_told_25 : decode cX1_told 25 = .ok (.goto 63, 3) := by decide +kernel
theorem dX1_told_28 : decode cX1_told 28 = .ok (.iload_n 2, 1) := by decide +kernel
theorem dX1_told_29 : decode cX1_told 29 = .ok (.iconst 1, 1) := by decide +kernel
theorem dX1_told_30 : decode cX1_told 30 = .ok (.if_icmp .ne 12, 3) := by decide +kernel
theorem dX1_told_33 : decode cX1_told 33 = .ok (.aload_n 0, 1) := by decide +kernel
theorem dX1_told_34 : decode cX1_told 34 = .ok (.getfield 19, 3) := by decide +kernel
theorem dX1_told_37 : decode cX1_told 37 = .ok (.iload_n 1, 1) := by decide +kernel
theorem dX1_told_38 : decode cX1_told 38 = .ok (.iaload, 1) := by decide +kernel
theorem dX1_told_39 : decode cX1_told 39 = .ok (.goto 49, 3) := by decide +kernel
theorem dX1_told_42 : decode cX1_told 42 = .ok (.iload_n 2, 1) := by decide +kernel
theorem dX1_told_43 : decode cX1_told 43 = .ok (.iconst 2, 1) := by decide +kernel
theorem dX1_told_44 : decode cX1_told 44 = .ok (.if_icmp .ne 20, 3) := by decide +kernel
theorem dX1_told_47 : decode cX1_told 47 = .ok (.aload_n 0, 1) := by decide +kernel
theorem dX1_told_48 : decode cX1_told 48 = .ok (.getfield 22, 3) := by decide +kernel
theorem dX1_told_51 : decode cX1_told 51 = .ok (.iload_n 1, 1) := by decide +kernel
theorem dX1_told_52 : decode cX1_told 52 = .ok (.baload, 1) := by decide +kernel
theorem dX1_told_53 : decode cX1_told 53 = .ok (.ifCond .eq 7, 3) := by decide +kernel
theorem dX1_told_56 : decode cX1_told 56 = .ok (.iconst 1, 1) := by decide +kernel
theorem dX1_told_57 : decode cX1_told 57 = .ok (.goto 31, 3) := by decide +kernel
theorem dX1_told_60 : decode cX1_told 60 = .ok (.iconst 0, 1) := by decide +kernel
theorem dX1_told_61 : decode cX1_told 61 = .ok (.goto 27, 3) := by decide +kernel
theorem dX1_told_64 : decode cX1_told 64 = .ok (.iload_n 2, 1) := by decide +kernel
theorem dX1_told_65 : decode cX1_told 65 = .ok (.iconst 3, 1) := by decide +kernel
theorem dX1_told_66 : decode cX1_told 66 = .ok (.if_icmp .ne 20, 3) := by decide +kernel
theorem dX1_told_69 : decode cX1_told 69 = .ok (.aload_n 0, 1) := by decide +kernel
theorem dX1_told_70 : decode cX1_told 70 = .ok (.getfield 26, 3) := by decide +kernel
theorem dX1_told_73 : decode cX1_told 73 = .ok (.iload_n 1, 1) := by decide +kernel
theorem dX1_told_74 : decode cX1_told 74 = .ok (.baload, 1) := by decide +kernel
theorem dX1_told_75 : decode cX1_told 75 = .ok (.ifCond .eq 7, 3) := by decide +kernel
theorem dX1_told_78 : decode cX1_told 78 = .ok (.iconst 1, 1) := by decide +kernel
theorem dX1_told_79 : decode cX1_told 79 = .ok (.goto 9, 3) := by decide +kernel
theorem dX1_told_82 : decode cX1_told 82 = .ok (.iconst 0, 1) := by decide +kernel
theorem dX1_told_83 : decode cX1_told 83 = .ok (.goto 5, 3) := by decide +kernel
theorem dX1_told_86 : decode cX1_told 86 = .ok (.bipush (-5), 2) := by decide +kernel
theorem dX1_told_88 : decode cX1_told 88 = .ok (.ireturn, 1) := by decide +kernel
theorem dX1_hand_0 : decode cX1_hand 0 = .ok (.aload_n 0, 1) := by decide +kernel
theorem dX1_hand_1 : decode cX1_hand 1 = .ok (.getfield 46, 3) := by decide +kernel
theorem dX1_hand_4 : decode cX1_hand 4 = .ok (.ireturn, 1) := by decide +kernel
theorem dX1_pinned_0 : decode cX1_pinned 0 = .ok (.iconst 0, 1) := by decide +kernel
theorem dX1_pinned_1 : decode cX1_pinned 1 = .ok (.istore_n 1, 1) := by decide +kernel
theorem dX1_pinned_2 : decode cX1_pinned 2 = .ok (.iconst 0, 1) := by decide +kernel
theorem dX1_pinned_3 : decode cX1_pinned 3 = .ok (.istore_n 2, 1) := by decide +kernel
theorem dX1_pinned_4 : decode cX1_pinned 4 = .ok (.iload_n 2, 1) := by decide +kernel
theorem dX1_pinned_5 : decode cX1_pinned 5 = .ok (.aload_n 0, 1) := by decide +kernel
theorem dX1_pinned_6 : decode cX1_pinned 6 = .ok (.getfield 29, 3) := by decide +kernel
theorem dX1_pinned_9 : decode cX1_pinned 9 = .ok (.if_icmp .ge 26, 3) := by decide +kernel
theorem dX1_pinned_12 : decode cX1_pinned 12 = .ok (.iload_n 1, 1) := by decide +kernel
theorem dX1_pinned_13 : decode cX1_pinned 13 = .ok (.aload_n 0, 1) := by decide +kernel
theorem dX1_pinned_14 : decode cX1_pinned 14 = .ok (.getfield 19, 3) := by decide +kernel
theorem dX1_pinned_17 : decode cX1_pinned 17 = .ok (.iload_n 2, 1) := by decide +kernel
theorem dX1_pinned_18 : decode cX1_pinned 18 = .ok (.iaload, 1) := by decide +kernel
theorem dX1_pinned_19 : decode cX1_pinned 19 = .ok (.ifCond .le 7, 3) := by decide +kernel
theorem dX1_pinned_22 : decode cX1_pinned 22 = .ok (.iconst 1, 1) := by decide +kernel
theorem dX1_pinned_23 : decode cX1_pinned 23 = .ok (.goto 4, 3) := by decide +kernel
theorem dX1_pinned_26 : decode cX1_pinned 26 = .ok (.iconst 0, 1) := by decide +kernel
theorem dX1_pinned_27 : decode cX1_pinned 27 = .ok (.iadd, 1) := by decide +kernel
theorem dX1_pinned_28 : decode cX1_pinned 28 = .ok (.istore_n 1, 1) := by decide +kernel
theorem dX1_pinned_29 : decode cX1_pinned 29 = .ok (.iinc 2 1, 3) := by decide +kernel
theorem dX1_pinned_32 : decode cX1_pinned 32 = .ok (.goto (-28), 3) := by decide +kernel
theorem dX1_pinned_35 : decode cX1_pinned 35 = .ok (.iload_n 1, 1) := by decide +kernel
theorem dX1_pinned_36 : decode cX1_pinned 36 = .ok (.ireturn, 1) := by decide +kernel
theorem dJ9_max_7cf53_0 : decode cJ9_max_7cf53 0 = .ok (.iload_n 0, 1) := by decide +kernel
theorem dJ9_max_7cf53_1 : decode cJ9_max_7cf53 1 = .ok (.iload_n 1, 1) := by decide +kernel
theorem dJ9_max_7cf53_2 : decode cJ9_max_7cf53 2 = .ok (.if_icmp .lt 7, 3) := by decide +kernel
theorem dJ9_max_7cf53_5 : decode cJ9_max_7cf53 5 = .ok (.iload_n 0, 1) := by decide +kernel
theorem dJ9_max_7cf53_6 : decode cJ9_max_7cf53 6 = .ok (.goto 4, 3) := by decide +kernel
theorem dJ9_max_7cf53_9 : decode cJ9_max_7cf53 9 = .ok (.iload_n 1, 1) := by decide +kernel
theorem dJ9_max_7cf53_10 : decode cJ9_max_7cf53 10 = .ok (.ireturn, 1) := by decide +kernel
theorem dJ9_min_7cf53_0 : decode cJ9_min_7cf53 0 = .ok (.iload_n 0, 1) := by decide +kernel
theorem dJ9_min_7cf53_1 : decode cJ9_min_7cf53 1 = .ok (.iload_n 1, 1) := by decide +kernel
theorem dJ9_min_7cf53_2 : decode cJ9_min_7cf53 2 = .ok (.if_icmp .gt 7, 3) := by decide +kernel
theorem dJ9_min_7cf53_5 : decode cJ9_min_7cf53 5 = .ok (.iload_n 0, 1) := by decide +kernel
theorem dJ9_min_7cf53_6 : decode cJ9_min_7cf53 6 = .ok (.goto 4, 3) := by decide +kernel
theorem dJ9_min_7cf53_9 : decode cJ9_min_7cf53 9 = .ok (.iload_n 1, 1) := by decide +kernel
theorem dJ9_min_7cf53_10 : decode cJ9_min_7cf53 10 = .ok (.ireturn, 1) := by decide +kernel
