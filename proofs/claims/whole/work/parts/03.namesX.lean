set_option maxRecDepth 20000 in
theorem ggX0_init_X0_within : GoodIn wsX0_init wsX0_within := goodIn_r _ [18, 19, 20, 21, 22, 23, 24, 25] (by decide +kernel) (by decide +kernel)
set_option maxRecDepth 20000 in
theorem gX0_init_X0_within : GoodIn wsX0_init (va_wsS RX0 9 yX0_within wsX0_within) := goodIn_app (goodIn_of _ (by decide +kernel)) ggX0_init_X0_within
set_option maxRecDepth 20000 in
theorem ggX0_init_X0_init_ : GoodIn wsX0_init wsX0_init_ := goodIn_r _ [29, 4, 8, 30, 31, 32, 33, 34, 35, 17, 36, 10, 11, 13, 14, 37, 38, 39, 40, 41, 42, 43, 44, 45, 46, 47, 48] (by decide +kernel) (by decide +kernel)
set_option maxRecDepth 20000 in
theorem gX0_init_X0_init_ : GoodIn wsX0_init (wsV RX0 43 RX0 yX0_init_ wsX0_init_) := goodIn_app (goodIn_of _ (by decide +kernel)) ggX0_init_X0_init_
theorem dX0_init_0 : decode cX0_init 0 = .ok (.aload_n 0, 1) := by decide +kernel
theorem dX0_init_1 : decode cX0_init 1 = .ok (.invokespecial 1, 3) := by decide +kernel
theorem dX0_init_4 : decode cX0_init 4 = .ok (.aload_n 0, 1) := by decide +kernel
theorem dX0_init_5 : decode cX0_init 5 = .ok (.iload_n 1, 1) := by decide +kernel
theorem dX0_init_6 : decode cX0_init 6 = .ok (.bipush 32, 2) := by decide +kernel
theorem dX0_init_8 : decode cX0_init 8 = .ok (.invokestatic 9, 3) := by decide +kernel
theorem dX0_init_11 : decode cX0_init 11 = .ok (.putfield 13, 3) := by decide +kernel
theorem dX0_init_14 : decode cX0_init 14 = .ok (.aload_n 0, 1) := by decide +kernel
theorem dX0_init_15 : decode cX0_init 15 = .ok (.iload_n 2, 1) := by decide +kernel
theorem dX0_init_16 : decode cX0_init 16 = .ok (.sipush 200, 3) := by decide +kernel
theorem dX0_init_19 : decode cX0_init 19 = .ok (.invokestatic 9, 3) := by decide +kernel
theorem dX0_init_22 : decode cX0_init 22 = .ok (.putfield 17, 3) := by decide +kernel
theorem dX0_init_25 : decode cX0_init 25 = .ok (.aload_n 0, 1) := by decide +kernel
theorem dX0_init_26 : decode cX0_init 26 = .ok (.iload_n 3, 1) := by decide +kernel
theorem dX0_init_27 : decode cX0_init 27 = .ok (.bipush 8, 2) := by decide +kernel
theorem dX0_init_29 : decode cX0_init 29 = .ok (.invokestatic 9, 3) := by decide +kernel
theorem dX0_init_32 : decode cX0_init 32 = .ok (.putfield 20, 3) := by decide +kernel
theorem dX0_init_35 : decode cX0_init 35 = .ok (.aload_n 0, 1) := by decide +kernel
theorem dX0_init_36 : decode cX0_init 36 = .ok (.aload_n 0, 1) := by decide +kernel
theorem dX0_init_37 : decode cX0_init 37 = .ok (.getfield 17, 3) := by decide +kernel
theorem dX0_init_40 : decode cX0_init 40 = .ok (.aload_n 0, 1) := by decide +kernel
theorem dX0_init_41 : decode cX0_init 41 = .ok (.getfield 20, 3) := by decide +kernel
theorem dX0_init_44 : decode cX0_init 44 = .ok (.imul, 1) := by decide +kernel
theorem dX0_init_45 : decode cX0_init 45 = .ok (.newarray .int, 2) := by decide +kernel
theorem dX0_init_47 : decode cX0_init 47 = .ok (.putfield 23, 3) := by decide +kernel
theorem dX0_init_50 : decode cX0_init 50 = .ok (.aload_n 0, 1) := by decide +kernel
theorem dX0_init_51 : decode cX0_init 51 = .ok (.aload_n 0, 1) := by decide +kernel
theorem dX0_init_52 : decode cX0_init 52 = .ok (.getfield 13, 3) := by decide +kernel
theorem dX0_init_55 : decode cX0_init 55 = .ok (.aload_n 0, 1) := by decide +kernel
theorem dX0_init_56 : decode cX0_init 56 = .ok (.getfield 20, 3) := by decide +kernel
theorem dX0_init_59 : decode cX0_init 59 = .ok (.imul, 1) := by decide +kernel
theorem dX0_init_60 : decode cX0_init 60 = .ok (.newarray .int, 2) := by decide +kernel
theorem dX0_init_62 : decode cX0_init 62 = .ok (.putfield 27, 3) := by decide +kernel
theorem dX0_init_65 : decode cX0_init 65 = .ok (.aload_n 0, 1) := by decide +kernel
theorem dX0_init_66 : decode cX0_init 66 = .ok (.aload_n 0, 1) := by decide +kernel
theorem dX0_init_67 : decode cX0_init 67 = .ok (.getfield 13, 3) := by decide +kernel
theorem dX0_init_70 : decode cX0_init 70 = .ok (.newarray .int, 2) := by decide +kernel
theorem dX0_init_72 : decode cX0_init 72 = .ok (.putfield 30, 3) := by decide +kernel
theorem dX0_init_75 : decode cX0_init 75 = .ok (.aload_n 0, 1) := by decide +kernel
theorem dX0_init_76 : decode cX0_init 76 = .ok (.aload_n 0, 1) := by decide +kernel
theorem dX0_init_77 : decode cX0_init 77 = .ok (.getfield 13, 3) := by decide +kernel
theorem dX0_init_80 : decode cX0_init 80 = .ok (.newarray .int, 2) := by decide +kernel
theorem dX0_init_82 : decode cX0_init 82 = .ok (.putfield 33, 3) := by decide +kernel
theorem dX0_init_85 : decode cX0_init 85 = .ok (.aload_n 0, 1) := by decide +kernel
theorem dX0_init_86 : decode cX0_init 86 = .ok (.aload_n 0, 1) := by decide +kernel
theorem dX0_init_87 : decode cX0_init 87 = .ok (.getfield 13, 3) := by decide +kernel
theorem dX0_init_90 : decode cX0_init 90 = .ok (.newarray .boolean, 2) := by decide +kernel
theorem dX0_init_92 : decode cX0_init 92 = .ok (.putfield 36, 3) := by decide +kernel
theorem dX0_init_95 : decode cX0_init 95 = .ok (.aload_n 0, 1) := by decide +kernel
theorem dX0_init_96 : decode cX0_init 96 = .ok (.aload_n 0, 1) := by decide +kernel
theorem dX0_init_97 : decode cX0_init 97 = .ok (.getfield 13, 3) := by decide +kernel
theorem dX0_init_100 : decode cX0_init 100 = .ok (.newarray .boolean, 2) := by decide +kernel
theorem dX0_init_102 : decode cX0_init 102 = .ok (.putfield 40, 3) := by decide +kernel
theorem dX0_init_105 : decode cX0_init 105 = .ok (.aload_n 0, 1) := by decide +kernel
theorem dX0_init_106 : decode cX0_init 106 = .ok (.invokevirtual 43, 3) := by decide +kernel
theorem dX0_init_109 : decode cX0_init 109 = .ok (.return_, 1) := by decide +kernel
set_option maxRecDepth 20000 in
theorem ggX0_init__X0_makeEmpty : GoodIn wsX0_init_ wsX0_makeEmpty := goodIn_r _ [10, 11, 12, 13, 14, 15, 16, 17, 18, 19, 20, 21, 22, 23, 24, 25, 26] (by decide +kernel) (by decide +kernel)
set_option maxRecDepth 20000 in
theorem gX0_init__X0_makeEmpty : GoodIn wsX0_init_ (wsV RX0 46 RX0 yX0_makeEmpty wsX0_makeEmpty) := goodIn_app (goodIn_of _ (by decide +kernel)) ggX0_init__X0_makeEmpty
theorem dX0_init__0 : decode cX0_init_ 0 = .ok (.iconst 0, 1) := by decide +kernel
theorem dX0_init__1 : decode cX0_init_ 1 = .ok (.istore_n 1, 1) := by decide +kernel
theorem dX0_init__2 : decode cX0_init_ 2 = .ok (.iload_n 1, 1) := by decide +kernel
theorem dX0_init__3 : decode cX0_init_ 3 = .ok (.aload_n 0, 1) := by decide +kernel
theorem dX0_init__4 : decode cX0_init_ 4 = .ok (.getfield 13, 3) := by decide +kernel
theorem dX0_init__7 : decode cX0_init_ 7 = .ok (.if_icmp .ge 14, 3) := by decide +kernel
theorem dX0_init__10 : decode cX0_init_ 10 = .ok (.aload_n 0, 1) := by decide +kernel
theorem dX0_init__11 : decode cX0_init_ 11 = .ok (.iload_n 1, 1) := by decide +kernel
theorem dX0_init__12 : decode cX0_init_ 12 = .ok (.invokevirtual 46, 3) := by decide +kernel
theorem dX0_init__15 : decode cX0_init_ 15 = .ok (.iinc 1 1, 3) := by decide +kernel
theorem dX0_init__18 : decode cX0_init_ 18 = .ok (.goto (-16), 3) := by decide +kernel
theorem dX0_init__21 : decode cX0_init_ 21 = .ok (.iconst 0, 1) := by decide +kernel
theorem dX0_init__22 : decode cX0_init_ 22 = .ok (.istore_n 1, 1) := by decide +kernel
theorem dX0_init__23 : decode cX0_init_ 23 = .ok (.iload_n 1, 1) := by decide +kernel
theorem dX0_init__24 : decode cX0_init_ 24 = .ok (.aload_n 0, 1) := by decide +kernel
theorem dX0_init__25 : decode cX0_init_ 25 = .ok (.getfield 23, 3) := by decide +kernel
theorem dX0_init__28 : decode cX0_init_ 28 = .ok (.arraylength, 1) := by decide +kernel
theorem dX0_init__29 : decode cX0_init_ 29 = .ok (.if_icmp .ge 16, 3) := by decide +kernel
theorem dX0_init__32 : decode cX0_init_ 32 = .ok (.aload_n 0, 1) := by decide +kernel
theorem dX0_init__33 : decode cX0_init_ 33 = .ok (.getfield 23, 3) := by decide +kernel
theorem dX0_init__36 : decode cX0_init_ 36 = .ok (.iload_n 1, 1) := by decide +kernel
theorem dX0_init__37 : decode cX0_init_ 37 = .ok (.iconst 0, 1) := by decide +kernel
theorem dX0_init__38 : decode cX0_init_ 38 = .ok (.iastore, 1) := by decide +kernel
theorem dX0_init__39 : decode cX0_init_ 39 = .ok (.iinc 1 1, 3) := by decide +kernel
theorem dX0_init__42 : decode cX0_init_ 42 = .ok (.goto (-19), 3) := by decide +kernel
theorem dX0_init__45 : decode cX0_init_ 45 = .ok (.aload_n 0, 1) := by decide +kernel
theorem dX0_init__46 : decode cX0_init_ 46 = .ok (.iconst 0, 1) := by decide +kernel
theorem dX0_init__47 : decode cX0_init_ 47 = .ok (.putfield 50, 3) := by decide +kernel
theorem dX0_init__50 : decode cX0_init_ 50 = .ok (.aload_n 0, 1) := by decide +kernel
theorem dX0_init__51 : decode cX0_init_ 51 = .ok (.iconst 0, 1) := by decide +kernel
theorem dX0_init__52 : decode cX0_init_ 52 = .ok (.putfield 53, 3) := by decide +kernel
theorem dX0_init__55 : decode cX0_init_ 55 = .ok (.aload_n 0, 1) := by decide +kernel
theorem dX0_init__56 : decode cX0_init_ 56 = .ok (.iconst 0, 1) := by decide +kernel
theorem dX0_init__57 : decode cX0_init_ 57 = .ok (.putfield 56, 3) := by decide +kernel
theorem dX0_init__60 : decode cX0_init_ 60 = .ok (.return_, 1) := by decide +kernel
set_option maxRecDepth 20000 in
theorem ggX0_fetch_X0_isPage : GoodIn wsX0_fetch wsX0_isPage := goodIn_r _ [7, 8, 58, 59, 60, 61, 62, 63, 64, 65, 66, 67, 68, 69] (by decide +kernel) (by decide +kernel)
set_option maxRecDepth 20000 in
theorem gX0_fetch_X0_isPage : GoodIn wsX0_fetch (wsV RX0 59 RX0 yX0_isPage wsX0_isPage) := goodIn_app (goodIn_of _ (by decide +kernel)) ggX0_fetch_X0_isPage
set_option maxRecDepth 20000 in
theorem ggX0_fetch_X0_frameOf : GoodIn wsX0_fetch wsX0_frameOf := goodIn_r _ [12, 13, 14, 3, 4, 5, 6, 7, 8, 58, 59, 60, 61, 62, 63, 64, 65, 66, 67, 68, 69] (by decide +kernel) (by decide +kernel)
set_option maxRecDepth 20000 in
theorem gX0_fetch_X0_frameOf : GoodIn wsX0_fetch (wsV RX0 63 RX0 yX0_frameOf wsX0_frameOf) := goodIn_app (goodIn_of _ (by decide +kernel)) ggX0_fetch_X0_frameOf
set_option maxRecDepth 20000 in
theorem ggX0_fetch_X0_findFrame : GoodIn wsX0_fetch wsX0_findFrame := goodIn_r _ [18, 13, 19, 20, 21, 22, 6, 23, 1, 24, 25, 26, 27, 28, 29, 30, 31, 14, 2, 32, 33, 34, 35, 36, 37, 38, 39, 40, 41, 42, 43, 44, 45, 46, 47, 48, 49, 50, 51, 52, 58, 59, 60, 61, 62, 63, 64, 65, 66, 67, 68, 69] (by decide +kernel) (by decide +kernel)
set_option maxRecDepth 20000 in
theorem gX0_fetch_X0_findFrame : GoodIn wsX0_fetch (wsV RX0 67 RX0 yX0_findFrame wsX0_findFrame) := goodIn_app (goodIn_of _ (by decide +kernel)) ggX0_fetch_X0_findFrame
set_option maxRecDepth 20000 in
theorem ggX0_fetch_X0_readInto : GoodIn wsX0_fetch wsX0_readInto := goodIn_r _ [56, 38, 37, 14, 57, 40, 41, 42, 6, 43, 44, 45, 46, 47, 48, 58, 59, 60, 61, 62, 63, 64, 65, 66, 67, 68, 69] (by decide +kernel) (by decide +kernel)
set_option maxRecDepth 20000 in
theorem gX0_fetch_X0_readInto : GoodIn wsX0_fetch (wsV RX0 71 RX0 yX0_readInto wsX0_readInto) := goodIn_app (goodIn_of _ (by decide +kernel)) ggX0_fetch_X0_readInto
theorem dX0_fetch_0 : decode cX0_fetch 0 = .ok (.aload_n 0, 1) := by decide +kernel
theorem dX0_fetch_1 : decode cX0_fetch 1 = .ok (.iload_n 1, 1) := by decide +kernel
theorem dX0_fetch_2 : decode cX0_fetch 2 = .ok (.invokevirtual 59, 3) := by decide +kernel
theorem dX0_fetch_5 : decode cX0_fetch 5 = .ok (.ifCond .ne 6, 3) := by decide +kernel
theorem dX0_fetch_8 : decode cX0_fetch 8 = .ok (.bipush (-2), 2) := by decide +kernel
theorem dX0_fetch_10 : decode cX0_fetch 10 = .ok (.ireturn, 1) := by decide +kernel
theorem dX0_fetch_11 : decode cX0_fetch 11 = .ok (.aload_n 0, 1) := by decide +kernel
theorem dX0_fetch_12 : decode cX0_fetch 12 = .ok (.iload_n 1, 1) := by decide +kernel
theorem dX0_fetch_13 : decode cX0_fetch 13 = .ok (.invokevirtual 63, 3) := by decide +kernel
theorem dX0_fetch_16 : decode cX0_fetch 16 = .ok (.istore_n 2, 1) := by decide +kernel
theorem dX0_fetch_17 : decode cX0_fetch 17 = .ok (.iload_n 2, 1) := by decide +kernel
theorem dX0_fetch_18 : decode cX0_fetch 18 = .ok (.iconst (-1), 1) := by decide +kernel
theorem dX0_fetch_19 : decode cX0_fetch 19 = .ok (.if_icmp .ne 21, 3) := by decide +kernel
theorem dX0_fetch_22 : decode cX0_fetch 22 = .ok (.aload_n 0, 1) := by decide +kernel
theorem dX0_fetch_23 : decode cX0_fetch 23 = .ok (.invokevirtual 67, 3) := by decide +kernel
theorem dX0_fetch_26 : decode cX0_fetch 26 = .ok (.istore_n 2, 1) := by decide +kernel
theorem dX0_fetch_27 : decode cX0_fetch 27 = .ok (.iload_n 2, 1) := by decide +kernel
theorem dX0_fetch_28 : decode cX0_fetch 28 = .ok (.iconst (-1), 1) := by decide +kernel
theorem dX0_fetch_29 : decode cX0_fetch 29 = .ok (.if_icmp .ne 5, 3) := by decide +kernel
theorem dX0_fetch_32 : decode cX0_fetch 32 = .ok (.iconst (-1), 1) := by decide +kernel
theorem dX0_fetch_33 : decode cX0_fetch 33 = .ok (.ireturn, 1) := by decide +kernel
theorem dX0_fetch_34 : decode cX0_fetch 34 = .ok (.aload_n 0, 1) := by decide +kernel
theorem dX0_fetch_35 : decode cX0_fetch 35 = .ok (.iload_n 2, 1) := by decide +kernel
theorem dX0_fetch_36 : decode cX0_fetch 36 = .ok (.iload_n 1, 1) := by decide +kernel
theorem dX0_fetch_37 : decode cX0_fetch 37 = .ok (.invokevirtual 71, 3) := by decide +kernel
theorem dX0_fetch_40 : decode cX0_fetch 40 = .ok (.aload_n 0, 1) := by decide +kernel
theorem dX0_fetch_41 : decode cX0_fetch 41 = .ok (.getfield 33, 3) := by decide +kernel
theorem dX0_fetch_44 : decode cX0_fetch 44 = .ok (.iload_n 2, 1) := by decide +kernel
theorem dX0_fetch_45 : decode cX0_fetch 45 = .ok (.dup2, 1) := by decide +kernel
theorem dX0_fetch_46 : decode cX0_fetch 46 = .ok (.iaload, 1) := by decide +kernel
theorem dX0_fetch_47 : decode cX0_fetch 47 = .ok (.iconst 1, 1) := by decide +kernel
theorem dX0_fetch_48 : decode cX0_fetch 48 = .ok (.iadd, 1) := by decide +kernel
theorem dX0_fetch_49 : decode cX0_fetch 49 = .ok (.iastore, 1) := by decide +kernel
theorem dX0_fetch_50 : decode cX0_fetch 50 = .ok (.aload_n 0, 1) := by decide +kernel
theorem dX0_fetch_51 : decode cX0_fetch 51 = .ok (.getfield 40, 3) := by decide +kernel
theorem dX0_fetch_54 : decode cX0_fetch 54 = .ok (.iload_n 2, 1) := by decide +kernel
theorem dX0_fetch_55 : decode cX0_fetch 55 = .ok (.iconst 1, 1) := by decide +kernel
theorem dX0_fetch_56 : decode cX0_fetch 56 = .ok (.bastore, 1) := by decide +kernel
theorem dX0_fetch_57 : decode cX0_fetch 57 = .ok (.iload_n 2, 1) := by decide +kernel
theorem dX0_fetch_58 : decode cX0_fetch 58 = .ok (.ireturn, 1) := by decide +kernel
set_option maxRecDepth 20000 in
theorem ggX0_unpin_X0_isPinnedFrame : GoodIn wsX0_unpin wsX0_isPinnedFrame := goodIn_r _ [6, 1, 7, 8, 9, 5, 10, 11, 12, 13, 14, 15, 16, 17, 18, 19, 20, 21, 22, 23] (by decide +kernel) (by decide +kernel)
set_option maxRecDepth 20000 in
theorem gX0_unpin_X0_isPinnedFrame : GoodIn wsX0_unpin (wsV RX0 75 RX0 yX0_isPinnedFrame wsX0_isPinnedFrame) := goodIn_app (goodIn_of _ (by decide +kernel)) ggX0_unpin_X0_isPinnedFrame
theorem dX0_unpin_0 : decode cX0_unpin 0 = .ok (.aload_n 0, 1) := by decide +kernel
theorem dX0_unpin_1 : decode cX0_unpin 1 = .ok (.iload_n 1, 1) := by decide +kernel
theorem dX0_unpin_2 : decode cX0_unpin 2 = .ok (.invokevirtual 75, 3) := by decide +kernel
theorem dX0_unpin_5 : decode cX0_unpin 5 = .ok (.ifCond .ne 6, 3) := by decide +kernel
theorem dX0_unpin_8 : decode cX0_unpin 8 = .ok (.bipush (-3), 2) := by decide +kernel
theorem dX0_unpin_10 : decode cX0_unpin 10 = .ok (.ireturn, 1) := by decide +kernel
theorem dX0_unpin_11 : decode cX0_unpin 11 = .ok (.aload_n 0, 1) := by decide +kernel
theorem dX0_unpin_12 : decode cX0_unpin 12 = .ok (.getfield 33, 3) := by decide +kernel
theorem dX0_unpin_15 : decode cX0_unpin 15 = .ok (.iload_n 1, 1) := by decide +kernel
theorem dX0_unpin_16 : decode cX0_unpin 16 = .ok (.dup2, 1) := by decide +kernel
theorem dX0_unpin_17 : decode cX0_unpin 17 = .ok (.iaload, 1) := by decide +kernel
theorem dX0_unpin_18 : decode cX0_unpin 18 = .ok (.iconst 1, 1) := by decide +kernel
theorem dX0_unpin_19 : decode cX0_unpin 19 = .ok (.isub, 1) := by decide +kernel
theorem dX0_unpin_20 : decode cX0_unpin 20 = .ok (.iastore, 1) := by decide +kernel
theorem dX0_unpin_21 : decode cX0_unpin 21 = .ok (.aload_n 0, 1) := by decide +kernel
theorem dX0_unpin_22 : decode cX0_unpin 22 = .ok (.getfield 33, 3) := by decide +kernel
theorem dX0_unpin_25 : decode cX0_unpin 25 = .ok (.iload_n 1, 1) := by decide +kernel
theorem dX0_unpin_26 : decode cX0_unpin 26 = .ok (.iaload, 1) := by decide +kernel
theorem dX0_unpin_27 : decode cX0_unpin 27 = .ok (.ireturn, 1) := by decide +kernel
set_option maxRecDepth 20000 in
theorem ggX0_readWord_X0_isPinnedFrame : GoodIn wsX0_readWord wsX0_isPinnedFrame := goodIn_r _ [7, 8, 9, 10, 11, 6, 12, 13, 18, 19, 20, 21, 22, 23, 24, 25, 26, 27, 28, 29] (by decide +kernel) (by decide +kernel)
set_option maxRecDepth 20000 in
theorem gX0_readWord_X0_isPinnedFrame : GoodIn wsX0_readWord (wsV RX0 75 RX0 yX0_isPinnedFrame wsX0_isPinnedFrame) := goodIn_app (goodIn_of _ (by decide +kernel)) ggX0_readWord_X0_isPinnedFrame
set_option maxRecDepth 20000 in
theorem ggX0_readWord_X0_isOffset : GoodIn wsX0_readWord wsX0_isOffset := goodIn_r _ [17, 2, 18, 19, 20, 21, 22, 23, 24, 25, 26, 27, 28, 29] (by decide +kernel) (by decide +kernel)
set_option maxRecDepth 20000 in
theorem gX0_readWord_X0_isOffset : GoodIn wsX0_readWord (wsV RX0 78 RX0 yX0_isOffset wsX0_isOffset) := goodIn_app (goodIn_of _ (by decide +kernel)) ggX0_readWord_X0_isOffset
theorem dX0_readWord_0 : decode cX0_readWord 0 = .ok (.aload_n 0, 1) := by decide +kernel
theorem dX0_readWord_1 : decode cX0_readWord 1 = .ok (.iload_n 1, 1) := by decide +kernel
theorem dX0_readWord_2 : decode cX0_readWord 2 = .ok (.invokevirtual 75, 3) := by decide +kernel
theorem dX0_readWord_5 : decode cX0_readWord 5 = .ok (.ifCond .eq 11, 3) := by decide +kernel
theorem dX0_readWord_8 : decode cX0_readWord 8 = .ok (.aload_n 0, 1) := by decide +kernel
theorem dX0_readWord_9 : decode cX0_readWord 9 = .ok (.iload_n 2, 1) := by decide +kernel
theorem dX0_readWord_10 : decode cX0_readWord 10 = .ok (.invokevirtual 78, 3) := by decide +kernel
theorem dX0_readWord_13 : decode cX0_readWord 13 = .ok (.ifCond .ne 5, 3) := by decide +kernel
theorem dX0_readWord_16 : decode cX0_readWord 16 = .ok (.iconst 0, 1) := by decide +kernel
theorem dX0_readWord_17 : decode cX0_readWord 17 = .ok (.ireturn, 1) := by decide +kernel
theorem dX0_readWord_18 : decode cX0_readWord 18 = .ok (.aload_n 0, 1) := by decide +kernel
theorem dX0_readWord_19 : decode cX0_readWord 19 = .ok (.getfield 27, 3) := by decide +kernel
theorem dX0_readWord_22 : decode cX0_readWord 22 = .ok (.iload_n 1, 1) := by decide +kernel
theorem dX0_readWord_23 : decode cX0_readWord 23 = .ok (.aload_n 0, 1) := by decide +kernel
theorem dX0_readWord_24 : decode cX0_readWord 24 = .ok (.getfield 20, 3) := by decide +kernel
theorem dX0_readWord_27 : decode cX0_readWord 27 = .ok (.imul, 1) := by decide +kernel
theorem dX0_readWord_28 : decode cX0_readWord 28 = .ok (.iload_n 2, 1) := by decide +kernel
theorem dX0_readWord_29 : decode cX0_readWord 29 = .ok (.iadd, 1) := by decide +kernel
theorem dX0_readWord_30 : decode cX0_readWord 30 = .ok (.iaload, 1) := by decide +kernel
theorem dX0_readWord_31 : decode cX0_readWord 31 = .ok (.ireturn, 1) := by decide +kernel
set_option maxRecDepth 20000 in
theorem ggX0_writeWord_X0_isPinnedFrame : GoodIn wsX0_writeWord wsX0_isPinnedFrame := goodIn_r _ [8, 9, 10, 11, 12, 7, 13, 14, 19, 20, 21, 22, 23, 24, 25, 26, 27, 28, 29, 30] (by decide +kernel) (by decide +kernel)
set_option maxRecDepth 20000 in
theorem gX0_writeWord_X0_isPinnedFrame : GoodIn wsX0_writeWord (wsV RX0 75 RX0 yX0_isPinnedFrame wsX0_isPinnedFrame) := goodIn_app (goodIn_of _ (by decide +kernel)) ggX0_writeWord_X0_isPinnedFrame
set_option maxRecDepth 20000 in
theorem ggX0_writeWord_X0_isOffset : GoodIn wsX0_writeWord wsX0_isOffset := goodIn_r _ [18, 2, 19, 20, 21, 22, 23, 24, 25, 26, 27, 28, 29, 30] (by decide +kernel) (by decide +kernel)
set_option maxRecDepth 20000 in
theorem gX0_writeWord_X0_isOffset : GoodIn wsX0_writeWord (wsV RX0 78 RX0 yX0_isOffset wsX0_isOffset) := goodIn_app (goodIn_of _ (by decide +kernel)) ggX0_writeWord_X0_isOffset
theorem dX0_writeWord_0 : decode cX0_writeWord 0 = .ok (.aload_n 0, 1) := by decide +kernel
theorem dX0_writeWord_1 : decode cX0_writeWord 1 = .ok (.iload_n 1, 1) := by decide +kernel
theorem dX0_writeWord_2 : decode cX0_writeWord 2 = .ok (.invokevirtual 75, 3) := by decide +kernel
theorem dX0_writeWord_5 : decode cX0_writeWord 5 = .ok (.ifCond .ne 6, 3) := by decide +kernel
theorem dX0_writeWord_8 : decode cX0_writeWord 8 = .ok (.bipush (-3), 2) := by decide +kernel
theorem dX0_writeWord_10 : decode cX0_writeWord 10 = .ok (.ireturn, 1) := by decide +kernel
theorem dX0_writeWord_11 : decode cX0_writeWord 11 = .ok (.aload_n 0, 1) := by decide +kernel
theorem dX0_writeWord_12 : decode cX0_writeWord 12 = .ok (.iload_n 2, 1) := by decide +kernel
theorem dX0_writeWord_13 : decode cX0_writeWord 13 = .ok (.invokevirtual 78, 3) := by decide +kernel
theorem dX0_writeWord_16 : decode cX0_writeWord 16 = .ok (.ifCond .ne 6, 3) := by decide +kernel
theorem dX0_writeWord_19 : decode cX0_writeWord 19 = .ok (.bipush (-4), 2) := by decide +kernel
theorem dX0_writeWord_21 : decode cX0_writeWord 21 = .ok (.ireturn, 1) := by decide +kernel
theorem dX0_writeWord_22 : decode cX0_writeWord 22 = .ok (.aload_n 0, 1) := by decide +kernel
theorem dX0_writeWord_23 : decode cX0_writeWord 23 = .ok (.getfield 27, 3) := by decide +kernel
theorem dX0_writeWord_26 : decode cX0_writeWord 26 = .ok (.iload_n 1, 1) := by decide +kernel
theorem dX0_writeWord_27 : decode cX0_writeWord 27 = .ok (.aload_n 0, 1) := by decide +kernel
theorem dX0_writeWord_28 : decode cX0_writeWord 28 = .ok (.getfield 20, 3) := by decide +kernel
theorem dX0_writeWord_31 : decode cX0_writeWord 31 = .ok (.imul, 1) := by decide +kernel
theorem dX0_writeWord_32 : decode cX0_writeWord 32 = .ok (.iload_n 2, 1) := by decide +kernel
theorem dX0_writeWord_33 : decode cX0_writeWord 33 = .ok (.iadd, 1) := by decide +kernel
theorem dX0_writeWord_34 : decode cX0_writeWord 34 = .ok (.iload_n 3, 1) := by decide +kernel
theorem dX0_writeWord_35 : decode cX0_writeWord 35 = .ok (.iastore, 1) := by decide +kernel
theorem dX0_writeWord_36 : decode cX0_writeWord 36 = .ok (.aload_n 0, 1) := by decide +kernel
theorem dX0_writeWord_37 : decode cX0_writeWord 37 = .ok (.getfield 36, 3) := by decide +kernel
theorem dX0_writeWord_40 : decode cX0_writeWord 40 = .ok (.iload_n 1, 1) := by decide +kernel
theorem dX0_writeWord_41 : decode cX0_writeWord 41 = .ok (.iconst 1, 1) := by decide +kernel
theorem dX0_writeWord_42 : decode cX0_writeWord 42 = .ok (.bastore, 1) := by decide +kernel
theorem dX0_writeWord_43 : decode cX0_writeWord 43 = .ok (.iconst 0, 1) := by decide +kernel
theorem dX0_writeWord_44 : decode cX0_writeWord 44 = .ok (.ireturn, 1) := by decide +kernel
set_option maxRecDepth 20000 in
theorem ggX0_flush_X0_frameOf : GoodIn wsX0_flush wsX0_frameOf := goodIn_r _ [6, 7, 8, 9, 10, 11, 5, 12, 13, 30, 31, 32, 33, 34, 35, 36, 37, 38, 39, 40, 41] (by decide +kernel) (by decide +kernel)
set_option maxRecDepth 20000 in
theorem gX0_flush_X0_frameOf : GoodIn wsX0_flush (wsV RX0 63 RX0 yX0_frameOf wsX0_frameOf) := goodIn_app (goodIn_of _ (by decide +kernel)) ggX0_flush_X0_frameOf
set_option maxRecDepth 20000 in
theorem ggX0_flush_X0_writeBack : GoodIn wsX0_flush wsX0_writeBack := goodIn_r _ [17, 18, 19, 8, 1, 20, 21, 22, 23, 5, 24, 25, 26, 27, 28, 29, 30, 31, 32, 33, 34, 35, 36, 37, 38, 39, 40, 41] (by decide +kernel) (by decide +kernel)
set_option maxRecDepth 20000 in
theorem gX0_flush_X0_writeBack : GoodIn wsX0_flush (wsV RX0 81 RX0 yX0_writeBack wsX0_writeBack) := goodIn_app (goodIn_of _ (by decide +kernel)) ggX0_flush_X0_writeBack
theorem dX0_flush_0 : decode cX0_flush 0 = .ok (.aload_n 0, 1) := by decide +kernel
theorem dX0_flush_1 : decode cX0_flush 1 = .ok (.iload_n 1, 1) := by decide +kernel
theorem dX0_flush_2 : decode cX0_flush 2 = .ok (.invokevirtual 63, 3) := by decide +kernel
theorem dX0_flush_5 : decode cX0_flush 5 = .ok (.istore_n 2, 1) := by decide +kernel
theorem dX0_flush_6 : decode cX0_flush 6 = .ok (.iload_n 2, 1) := by decide +kernel
theorem dX0_flush_7 : decode cX0_flush 7 = .ok (.iconst (-1), 1) := by decide +kernel
theorem dX0_flush_8 : decode cX0_flush 8 = .ok (.if_icmp .eq 12, 3) := by decide +kernel
theorem dX0_flush_11 : decode cX0_flush 11 = .ok (.aload_n 0, 1) := by decide +kernel
theorem dX0_flush_12 : decode cX0_flush 12 = .ok (.getfield 36, 3) := by decide +kernel
theorem dX0_flush_15 : decode cX0_flush 15 = .ok (.iload_n 2, 1) := by decide +kernel
theorem dX0_flush_16 : decode cX0_flush 16 = .ok (.baload, 1) := by decide +kernel
theorem dX0_flush_17 : decode cX0_flush 17 = .ok (.ifCond .ne 5, 3) := by decide +kernel
theorem dX0_flush_20 : decode cX0_flush 20 = .ok (.iconst 0, 1) := by decide +kernel
theorem dX0_flush_21 : decode cX0_flush 21 = .ok (.ireturn, 1) := by decide +kernel
theorem dX0_flush_22 : decode cX0_flush 22 = .ok (.aload_n 0, 1) := by decide +kernel
theorem dX0_flush_23 : decode cX0_flush 23 = .ok (.iload_n 2, 1) := by decide +kernel
theorem dX0_flush_24 : decode cX0_flush 24 = .ok (.invokevirtual 81, 3) := by decide +kernel
theorem dX0_flush_27 : decode cX0_flush 27 = .ok (.iconst 1, 1) := by decide +kernel
theorem dX0_flush_28 : decode cX0_flush 28 = .ok (.ireturn, 1) := by decide +kernel
set_option maxRecDepth 20000 in
theorem ggX0_flushAll_X0_writeBack : GoodIn wsX0_flushAll wsX0_writeBack := goodIn_r _ [7, 8, 9, 10, 2, 11, 12, 13, 14, 6, 15, 16, 17, 18, 19, 20, 21, 22, 23, 24, 25, 26, 27, 28, 29, 30, 31, 32] (by decide +kernel) (by decide +kernel)
set_option maxRecDepth 20000 in
theorem gX0_flushAll_X0_writeBack : GoodIn wsX0_flushAll (wsV RX0 81 RX0 yX0_writeBack wsX0_writeBack) := goodIn_app (goodIn_of _ (by decide +kernel)) ggX0_flushAll_X0_writeBack
theorem dX0_flushAll_0 : decode cX0_flushAll 0 = .ok (.iconst 0, 1) := by decide +kernel
theorem dX0_flushAll_1 : decode cX0_flushAll 1 = .ok (.istore_n 1, 1) := by decide +kernel
theorem dX0_flushAll_2 : decode cX0_flushAll 2 = .ok (.iconst 0, 1) := by decide +kernel
theorem dX0_flushAll_3 : decode cX0_flushAll 3 = .ok (.istore_n 2, 1) := by decide +kernel
theorem dX0_flushAll_4 : decode cX0_flushAll 4 = .ok (.iload_n 2, 1) := by decide +kernel
theorem dX0_flushAll_5 : decode cX0_flushAll 5 = .ok (.aload_n 0, 1) := by decide +kernel
theorem dX0_flushAll_6 : decode cX0_flushAll 6 = .ok (.getfield 13, 3) := by decide +kernel
theorem dX0_flushAll_9 : decode cX0_flushAll 9 = .ok (.if_icmp .ge 26, 3) := by decide +kernel
theorem dX0_flushAll_12 : decode cX0_flushAll 12 = .ok (.aload_n 0, 1) := by decide +kernel
theorem dX0_flushAll_13 : decode cX0_flushAll 13 = .ok (.getfield 36, 3) := by decide +kernel
theorem dX0_flushAll_16 : decode cX0_flushAll 16 = .ok (.iload_n 2, 1) := by decide +kernel
theorem dX0_flushAll_17 : decode cX0_flushAll 17 = .ok (.baload, 1) := by decide +kernel
theorem dX0_flushAll_18 : decode cX0_flushAll 18 = .ok (.ifCond .eq 11, 3) := by decide +kernel
theorem dX0_flushAll_21 : decode cX0_flushAll 21 = .ok (.aload_n 0, 1) := by decide +kernel
theorem dX0_flushAll_22 : decode cX0_flushAll 22 = .ok (.iload_n 2, 1) := by decide +kernel
theorem dX0_flushAll_23 : decode cX0_flushAll 23 = .ok (.invokevirtual 81, 3) := by decide +kernel
theorem dX0_flushAll_26 : decode cX0_flushAll 26 = .ok (.iinc 1 1, 3) := by decide +kernel
theorem dX0_flushAll_29 : decode cX0_flushAll 29 = .ok (.iinc 2 1, 3) := by decide +kernel
theorem dX0_flushAll_32 : decode cX0_flushAll 32 = .ok (.goto (-28), 3) := by decide +kernel
theorem dX0_flushAll_35 : decode cX0_flushAll 35 = .ok (.iload_n 1, 1) := by decide +kernel
theorem dX0_flushAll_36 : decode cX0_flushAll 36 = .ok (.ireturn, 1) := by decide +kernel
set_option maxRecDepth 20000 in
theorem ggX0_drop_X0_frameOf : GoodIn wsX0_drop wsX0_frameOf := goodIn_r _ [6, 7, 8, 9, 10, 11, 5, 12, 13, 20, 21, 22, 23, 24, 25, 26, 27, 28, 29, 30, 31] (by decide +kernel) (by decide +kernel)
set_option maxRecDepth 20000 in
theorem gX0_drop_X0_frameOf : GoodIn wsX0_drop (wsV RX0 63 RX0 yX0_frameOf wsX0_frameOf) := goodIn_app (goodIn_of _ (by decide +kernel)) ggX0_drop_X0_frameOf
set_option maxRecDepth 20000 in
theorem ggX0_drop_X0_makeEmpty : GoodIn wsX0_drop wsX0_makeEmpty := goodIn_r _ [17, 8, 1, 18, 19, 20, 21, 22, 23, 24, 25, 26, 27, 28, 29, 30, 31] (by decide +kernel) (by decide +kernel)
set_option maxRecDepth 20000 in
theorem gX0_drop_X0_makeEmpty : GoodIn wsX0_drop (wsV RX0 46 RX0 yX0_makeEmpty wsX0_makeEmpty) := goodIn_app (goodIn_of _ (by decide +kernel)) ggX0_drop_X0_makeEmpty
theorem dX0_drop_0 : decode cX0_drop 0 = .ok (.aload_n 0, 1) := by decide +kernel
theorem dX0_drop_1 : decode cX0_drop 1 = .ok (.iload_n 1, 1) := by decide +kernel
theorem dX0_drop_2 : decode cX0_drop 2 = .ok (.invokevirtual 63, 3) := by decide +kernel
theorem dX0_drop_5 : decode cX0_drop 5 = .ok (.istore_n 2, 1) := by decide +kernel
theorem dX0_drop_6 : decode cX0_drop 6 = .ok (.iload_n 2, 1) := by decide +kernel
theorem dX0_drop_7 : decode cX0_drop 7 = .ok (.iconst (-1), 1) := by decide +kernel
theorem dX0_drop_8 : decode cX0_drop 8 = .ok (.if_icmp .eq 12, 3) := by decide +kernel
theorem dX0_drop_11 : decode cX0_drop 11 = .ok (.aload_n 0, 1) := by decide +kernel
theorem dX0_drop_12 : decode cX0_drop 12 = .ok (.getfield 33, 3) := by decide +kernel
theorem dX0_drop_15 : decode cX0_drop 15 = .ok (.iload_n 2, 1) := by decide +kernel
theorem dX0_drop_16 : decode cX0_drop 16 = .ok (.iaload, 1) := by decide +kernel
theorem dX0_drop_17 : decode cX0_drop 17 = .ok (.ifCond .le 5, 3) := by decide +kernel
theorem dX0_drop_20 : decode cX0_drop 20 = .ok (.iconst 0, 1) := by decide +kernel
theorem dX0_drop_21 : decode cX0_drop 21 = .ok (.ireturn, 1) := by decide +kernel
theorem dX0_drop_22 : decode cX0_drop 22 = .ok (.aload_n 0, 1) := by decide +kernel
theorem dX0_drop_23 : decode cX0_drop 23 = .ok (.iload_n 2, 1) := by decide +kernel
theorem dX0_drop_24 : decode cX0_drop 24 = .ok (.invokevirtual 46, 3) := by decide +kernel
theorem dX0_drop_27 : decode cX0_drop 27 = .ok (.iconst 1, 1) := by decide +kernel
theorem dX0_drop_28 : decode cX0_drop 28 = .ok (.ireturn, 1) := by decide +kernel
set_option maxRecDepth 20000 in
theorem ggX0_copy_X0_isPage : GoodIn wsX0_copy wsX0_isPage := goodIn_r _ [8, 9, 34, 35, 36, 37, 38, 39, 40, 41, 42, 43, 44, 45] (by decide +kernel) (by decide +kernel)
set_option maxRecDepth 20000 in
theorem gX0_copy_X0_isPage : GoodIn wsX0_copy (wsV RX0 59 RX0 yX0_isPage wsX0_isPage) := goodIn_app (goodIn_of _ (by decide +kernel)) ggX0_copy_X0_isPage
set_option maxRecDepth 20000 in
theorem ggX0_copy_X0_frameOf : GoodIn wsX0_copy wsX0_frameOf := goodIn_r _ [13, 14, 15, 4, 5, 6, 7, 8, 9, 34, 35, 36, 37, 38, 39, 40, 41, 42, 43, 44, 45] (by decide +kernel) (by decide +kernel)
set_option maxRecDepth 20000 in
theorem gX0_copy_X0_frameOf : GoodIn wsX0_copy (wsV RX0 63 RX0 yX0_frameOf wsX0_frameOf) := goodIn_app (goodIn_of _ (by decide +kernel)) ggX0_copy_X0_frameOf
set_option maxRecDepth 20000 in
theorem ggX0_copy_X0_isPinnedFrame : GoodIn wsX0_copy wsX0_isPinnedFrame := goodIn_r _ [19, 20, 21, 22, 23, 7, 24, 14, 34, 35, 36, 37, 38, 39, 40, 41, 42, 43, 44, 45] (by decide +kernel) (by decide +kernel)
set_option maxRecDepth 20000 in
theorem gX0_copy_X0_isPinnedFrame : GoodIn wsX0_copy (wsV RX0 75 RX0 yX0_isPinnedFrame wsX0_isPinnedFrame) := goodIn_app (goodIn_of _ (by decide +kernel)) ggX0_copy_X0_isPinnedFrame
set_option maxRecDepth 20000 in
theorem ggX0_copy_X0_copyWords : GoodIn wsX0_copy wsX0_copyWords := goodIn_r _ [28, 29, 30, 31, 32, 33, 34, 35, 36, 37, 38, 39, 40, 41, 42, 43, 44, 45] (by decide +kernel) (by decide +kernel)
set_option maxRecDepth 20000 in
theorem gX0_copy_X0_copyWords : GoodIn wsX0_copy (wsV RX0 84 RX0 yX0_copyWords wsX0_copyWords) := goodIn_app (goodIn_of _ (by decide +kernel)) ggX0_copy_X0_copyWords
theorem dX0_copy_0 : decode cX0_copy 0 = .ok (.aload_n 0, 1) := by decide +kernel
theorem dX0_copy_1 : decode cX0_copy 1 = .ok (.iload_n 1, 1) := by decide +kernel
theorem dX0_copy_2 : decode cX0_copy 2 = .ok (.invokevirtual 59, 3) := by decide +kernel
theorem dX0_copy_5 : decode cX0_copy 5 = .ok (.ifCond .eq 11, 3) := by decide +kernel
theorem dX0_copy_8 : decode cX0_copy 8 = .ok (.aload_n 0, 1) := by decide +kernel
theorem dX0_copy_9 : decode cX0_copy 9 = .ok (.iload_n 2, 1) := by decide +kernel
theorem dX0_copy_10 : decode cX0_copy 10 = .ok (.invokevirtual 59, 3) := by decide +kernel
theorem dX0_copy_13 : decode cX0_copy 13 = .ok (.ifCond .ne 6, 3) := by decide +kernel
theorem dX0_copy_16 : decode cX0_copy 16 = .ok (.bipush (-2), 2) := by decide +kernel
theorem dX0_copy_18 : decode cX0_copy 18 = .ok (.ireturn, 1) := by decide +kernel
theorem dX0_copy_19 : decode cX0_copy 19 = .ok (.aload_n 0, 1) := by decide +kernel
theorem dX0_copy_20 : decode cX0_copy 20 = .ok (.iload_n 1, 1) := by decide +kernel
theorem dX0_copy_21 : decode cX0_copy 21 = .ok (.invokevirtual 63, 3) := by decide +kernel
theorem dX0_copy_24 : decode cX0_copy 24 = .ok (.istore_n 3, 1) := by decide +kernel
theorem dX0_copy_25 : decode cX0_copy 25 = .ok (.aload_n 0, 1) := by decide +kernel
theorem dX0_copy_26 : decode cX0_copy 26 = .ok (.iload_n 3, 1) := by decide +kernel
theorem dX0_copy_27 : decode cX0_copy 27 = .ok (.invokevirtual 75, 3) := by decide +kernel
theorem dX0_copy_30 : decode cX0_copy 30 = .ok (.ifCond .ne 6, 3) := by decide +kernel
theorem dX0_copy_33 : decode cX0_copy 33 = .ok (.bipush (-3), 2) := by decide +kernel
theorem dX0_copy_35 : decode cX0_copy 35 = .ok (.ireturn, 1) := by decide +kernel
theorem dX0_copy_36 : decode cX0_copy 36 = .ok (.aload_n 0, 1) := by decide +kernel
theorem dX0_copy_37 : decode cX0_copy 37 = .ok (.iload_n 2, 1) := by decide +kernel
theorem dX0_copy_38 : decode cX0_copy 38 = .ok (.invokevirtual 63, 3) := by decide +kernel
theorem dX0_copy_41 : decode cX0_copy 41 = .ok (.istore 4, 2) := by decide +kernel
theorem dX0_copy_43 : decode cX0_copy 43 = .ok (.iload 4, 2) := by decide +kernel
theorem dX0_copy_45 : decode cX0_copy 45 = .ok (.iconst (-1), 1) := by decide +kernel
theorem dX0_copy_46 : decode cX0_copy 46 = .ok (.if_icmp .ne 20, 3) := by decide +kernel
theorem dX0_copy_49 : decode cX0_copy 49 = .ok (.aload_n 0, 1) := by decide +kernel
theorem dX0_copy_50 : decode cX0_copy 50 = .ok (.aload_n 0, 1) := by decide +kernel
theorem dX0_copy_51 : decode cX0_copy 51 = .ok (.getfield 23, 3) := by decide +kernel
theorem dX0_copy_54 : decode cX0_copy 54 = .ok (.iload_n 2, 1) := by decide +kernel
theorem dX0_copy_55 : decode cX0_copy 55 = .ok (.aload_n 0, 1) := by decide +kernel
theorem dX0_copy_56 : decode cX0_copy 56 = .ok (.getfield 27, 3) := by decide +kernel
theorem dX0_copy_59 : decode cX0_copy 59 = .ok (.iload_n 3, 1) := by decide +kernel
theorem dX0_copy_60 : decode cX0_copy 60 = .ok (.invokevirtual 84, 3) := by decide +kernel
theorem dX0_copy_63 : decode cX0_copy 63 = .ok (.goto 18, 3) := by decide +kernel
theorem dX0_copy_66 : decode cX0_copy 66 = .ok (.aload_n 0, 1) := by decide +kernel
theorem dX0_copy_67 : decode cX0_copy 67 = .ok (.aload_n 0, 1) := by decide +kernel
theorem dX0_copy_68 : decode cX0_copy 68 = .ok (.getfield 27, 3) := by decide +kernel
theorem dX0_copy_71 : decode cX0_copy 71 = .ok (.iload 4, 2) := by decide +kernel
theorem dX0_copy_73 : decode cX0_copy 73 = .ok (.aload_n 0, 1) := by decide +kernel
theorem dX0_copy_74 : decode cX0_copy 74 = .ok (.getfield 27, 3) := by decide +kernel
theorem dX0_copy_77 : decode cX0_copy 77 = .ok (.iload_n 3, 1) := by decide +kernel
theorem dX0_copy_78 : decode cX0_copy 78 = .ok (.invokevirtual 84, 3) := by decide +kernel
theorem dX0_copy_81 : decode cX0_copy 81 = .ok (.aload_n 0, 1) := by decide +kernel
theorem dX0_copy_82 : decode cX0_copy 82 = .ok (.getfield 36, 3) := by decide +kernel
theorem dX0_copy_85 : decode cX0_copy 85 = .ok (.iload_n 3, 1) := by decide +kernel
theorem dX0_copy_86 : decode cX0_copy 86 = .ok (.iconst 1, 1) := by decide +kernel
theorem dX0_copy_87 : decode cX0_copy 87 = .ok (.bastore, 1) := by decide +kernel
theorem dX0_copy_88 : decode cX0_copy 88 = .ok (.iconst 0, 1) := by decide +kernel
theorem dX0_copy_89 : decode cX0_copy 89 = .ok (.ireturn, 1) := by decide +kernel
set_option maxRecDepth 20000 in
theorem ggX0_diskWord_X0_isPage : GoodIn wsX0_diskWord wsX0_isPage := goodIn_r _ [7, 8, 13, 14, 15, 16, 17, 18, 19, 20, 21, 22, 23, 24] (by decide +kernel) (by decide +kernel)
set_option maxRecDepth 20000 in
theorem gX0_diskWord_X0_isPage : GoodIn wsX0_diskWord (wsV RX0 59 RX0 yX0_isPage wsX0_isPage) := goodIn_app (goodIn_of _ (by decide +kernel)) ggX0_diskWord_X0_isPage
set_option maxRecDepth 20000 in
theorem ggX0_diskWord_X0_isOffset : GoodIn wsX0_diskWord wsX0_isOffset := goodIn_r _ [12, 2, 13, 14, 15, 16, 17, 18, 19, 20, 21, 22, 23, 24] (by decide +kernel) (by decide +kernel)
set_option maxRecDepth 20000 in
theorem gX0_diskWord_X0_isOffset : GoodIn wsX0_diskWord (wsV RX0 78 RX0 yX0_isOffset wsX0_isOffset) := goodIn_app (goodIn_of _ (by decide +kernel)) ggX0_diskWord_X0_isOffset
theorem dX0_diskWord_0 : decode cX0_diskWord 0 = .ok (.aload_n 0, 1) := by decide +kernel
theorem dX0_diskWord_1 : decode cX0_diskWord 1 = .ok (.iload_n 1, 1) := by decide +kernel
theorem dX0_diskWord_2 : decode cX0_diskWord 2 = .ok (.invokevirtual 59, 3) := by decide +kernel
theorem dX0_diskWord_5 : decode cX0_diskWord 5 = .ok (.ifCond .eq 11, 3) := by decide +kernel
theorem dX0_diskWord_8 : decode cX0_diskWord 8 = .ok (.aload_n 0, 1) := by decide +kernel
theorem dX0_diskWord_9 : decode cX0_diskWord 9 = .ok (.iload_n 2, 1) := by decide +kernel
theorem dX0_diskWord_10 : decode cX0_diskWord 10 = .ok (.invokevirtual 78, 3) := by decide +kernel
theorem dX0_diskWord_13 : decode cX0_diskWord 13 = .ok (.ifCond .ne 5, 3) := by decide +kernel
theorem dX0_diskWord_16 : decode cX0_diskWord 16 = .ok (.iconst 0, 1) := by decide +kernel
theorem dX0_diskWord_17 : decode cX0_diskWord 17 = .ok (.ireturn, 1) := by decide +kernel
theorem dX0_diskWord_18 : decode cX0_diskWord 18 = .ok (.aload_n 0, 1) := by decide +kernel
theorem dX0_diskWord_19 : decode cX0_diskWord 19 = .ok (.getfield 23, 3) := by decide +kernel
theorem dX0_diskWord_22 : decode cX0_diskWord 22 = .ok (.iload_n 1, 1) := by decide +kernel
theorem dX0_diskWord_23 : decode cX0_diskWord 23 = .ok (.aload_n 0, 1) := by decide +kernel
theorem dX0_diskWord_24 : decode cX0_diskWord 24 = .ok (.getfield 20, 3) := by decide +kernel
theorem dX0_diskWord_27 : decode cX0_diskWord 27 = .ok (.imul, 1) := by decide +kernel
theorem dX0_diskWord_28 : decode cX0_diskWord 28 = .ok (.iload_n 2, 1) := by decide +kernel
theorem dX0_diskWord_29 : decode cX0_diskWord 29 = .ok (.iadd, 1) := by decide +kernel
theorem dX0_diskWord_30 : decode cX0_diskWord 30 = .ok (.iaload, 1) := by decide +kernel
theorem dX0_diskWord_31 : decode cX0_diskWord 31 = .ok (.ireturn, 1) := by decide +kernel
set_option maxRecDepth 20000 in
theorem ggX0_resident_X0_frameOf : GoodIn wsX0_resident wsX0_frameOf := goodIn_r _ [5, 6, 7, 8, 9, 10, 4, 11, 12, 13, 14, 15, 16, 17, 18, 19, 20, 21, 22, 23, 24] (by decide +kernel) (by decide +kernel)
set_option maxRecDepth 20000 in
theorem gX0_resident_X0_frameOf : GoodIn wsX0_resident (wsV RX0 63 RX0 yX0_frameOf wsX0_frameOf) := goodIn_app (goodIn_of _ (by decide +kernel)) ggX0_resident_X0_frameOf
theorem dX0_resident_0 : decode cX0_resident 0 = .ok (.aload_n 0, 1) := by decide +kernel
theorem dX0_resident_1 : decode cX0_resident 1 = .ok (.iload_n 1, 1) := by decide +kernel
theorem dX0_resident_2 : decode cX0_resident 2 = .ok (.invokevirtual 63, 3) := by decide +kernel
theorem dX0_resident_5 : decode cX0_resident 5 = .ok (.iconst (-1), 1) := by decide +kernel
theorem dX0_resident_6 : decode cX0_resident 6 = .ok (.if_icmp .eq 7, 3) := by decide +kernel
theorem dX0_resident_9 : decode cX0_resident 9 = .ok (.iconst 1, 1) := by decide +kernel
theorem dX0_resident_10 : decode cX0_resident 10 = .ok (.goto 4, 3) := by decide +kernel
theorem dX0_resident_13 : decode cX0_resident 13 = .ok (.iconst 0, 1) := by decide +kernel
theorem dX0_resident_14 : decode cX0_resident 14 = .ok (.ireturn, 1) := by decide +kernel
theorem dX0_diskReads_0 : decode cX0_diskReads 0 = .ok (.aload_n 0, 1) := by decide +kernel
theorem dX0_diskReads_1 : decode cX0_diskReads 1 = .ok (.getfield 53, 3) := by decide +kernel
theorem dX0_diskReads_4 : decode cX0_diskReads 4 = .ok (.ireturn, 1) := by decide +kernel
theorem dX0_diskWrites_0 : decode cX0_diskWrites 0 = .ok (.aload_n 0, 1) := by decide +kernel
theorem dX0_diskWrites_1 : decode cX0_diskWrites 1 = .ok (.getfield 56, 3) := by decide +kernel
theorem dX0_diskWrites_4 : decode cX0_diskWrites 4 = .ok (.ireturn, 1) := by decide +kernel
set_option maxRecDepth 20000 in
theorem ggX0_told_X0_isFrame : GoodIn wsX0_told wsX0_isFrame := goodIn_r _ [9, 10, 11, 12, 13, 14, 15, 16, 17, 18, 19, 20, 21, 22] (by decide +kernel) (by decide +kernel)
set_option maxRecDepth 20000 in
theorem gX0_told_X0_isFrame : GoodIn wsX0_told (wsV RX0 88 RX0 yX0_isFrame wsX0_isFrame) := goodIn_app (goodIn_of _ (by decide +kernel)) ggX0_told_X0_isFrame
theorem dX0_told_0 : decode cX0_told 0 = .ok (.aload_n 0, 1) := by decide +kernel
theorem dX0_told_1 : decode cX0_told 1 = .ok (.iload_n 1, 1) := by decide +kernel
theorem dX0_told_2 : decode cX0_told 2 = .ok (.invokevirtual 88, 3) := by decide +kernel
theorem dX0_told_5 : decode cX0_told 5 = .ok (.ifCond .ne 6, 3) := by decide +kernel
theorem dX0_told_8 : decode cX0_told 8 = .ok (.bipush (-5), 2) := by decide +kernel
theorem dX0_told_10 : decode cX0_told 10 = .ok (.ireturn, 1) := by decide +kernel
theorem dX0_told_11 : decode cX0_told 11 = .ok (.iload_n 2, 1) := by decide +kernel
theorem dX0_told_12 : decode cX0_told 12 = .ok (.tableswitch 76 0 3 #[32, 39, 46, 61], 32) := by decide +kernel
theorem dX0_told_44 : decode cX0_told 44 = .ok (.aload_n 0, 1) := by decide +kernel
theorem dX0_told_45 : decode cX0_told 45 = .ok (.getfield 30, 3) := by decide +kernel
theorem dX0_told_48 : decode cX0_told 48 = .ok (.iload_n 1, 1) := by decide +kernel
theorem dX0_told_49 : decode cX0_told 49 = .ok (.iaload, 1) := by decide +kernel
theorem dX0_told_50 : decode cX0_told 50 = .ok (.ireturn, 1) := by decide +kernel
theorem dX0_told_51 : decode cX0_told 51 = .ok (.aload_n 0, 1) := by decide +kernel
theorem dX0_told_52 : decode cX0_told 52 = .ok (.getfield 33, 3) := by decide +kernel
theorem dX0_told_55 : decode cX0_told 55 = .ok (.iload_n 1, 1) := by decide +kernel
theorem dX0_told_56 : decode cX0_told 56 = .ok (.iaload, 1) := by decide +kernel
theorem dX0_told_57 : decode cX0_told 57 = .ok (.ireturn, 1) := by decide +kernel
theorem dX0_told_58 : decode cX0_told 58 = .ok (.aload_n 0, 1) := by decide +kernel
theorem dX0_told_59 : decode cX0_told 59 = .ok (.getfield 36, 3) := by decide +kernel
theorem dX0_told_62 : decode cX0_told 62 = .ok (.iload_n 1, 1) := by decide +kernel
theorem dX0_told_63 : decode cX0_told 63 = .ok (.baload, 1) := by decide +kernel
theorem dX0_told_64 : decode cX0_told 64 = .ok (.ifCond .eq 7, 3) := by decide +kernel
theorem dX0_told_67 : decode cX0_told 67 = .ok (.iconst 1, 1) := by decide +kernel
theorem dX0_told_68 : decode cX0_told 68 = .ok (.goto 4, 3) := by decide +kernel
theorem dX0_told_71 : decode cX0_told 71 = .ok (.iconst 0, 1) := by decide +kernel
theorem dX0_told_72 : decode cX0_told 72 = .ok (.ireturn, 1) := by decide +kernel
theorem dX0_told_73 : decode cX0_told 73 = .ok (.aload_n 0, 1) := by decide +kernel
theorem dX0_told_74 : decode cX0_told 74 = .ok (.getfield 40, 3) := by decide +kernel
theorem dX0_told_77 : decode cX0_told 77 = .ok (.iload_n 1, 1) := by decide +kernel
theorem dX0_told_78 : decode cX0_told 78 = .ok (.baload, 1) := by decide +kernel
theorem dX0_told_79 : decode cX0_told 79 = .ok (.ifCond .eq 7, 3) := by decide +kernel
theorem dX0_told_82 : decode cX0_told 82 = .ok (.iconst 1, 1) := by decide +kernel
theorem dX0_told_83 : decode cX0_told 83 = .ok (.goto 4, 3) := by decide +kernel
theorem dX0_told_86 : decode cX0_told 86 = .ok (.iconst 0, 1) := by decide +kernel
theorem dX0_told_87 : decode cX0_told 87 = .ok (.ireturn, 1) := by decide +kernel
theorem dX0_told_88 : decode cX0_told 88 = .ok (.bipush (-5), 2) := by decide +kernel
theorem dX0_told_90 : decode cX0_told 90 = .ok (.ireturn, 1) := by decide +kernel
theorem dX0_hand_0 : decode cX0_hand 0 = .ok (.aload_n 0, 1) := by decide +kernel
theorem dX0_hand_1 : decode cX0_hand 1 = .ok (.getfield 50, 3) := by decide +kernel
theorem dX0_hand_4 : decode cX0_hand 4 = .ok (.ireturn, 1) := by decide +kernel
theorem dX0_pinned_0 : decode cX0_pinned 0 = .ok (.iconst 0, 1) := by decide +kernel
theorem dX0_pinned_1 : decode cX0_pinned 1 = .ok (.istore_n 1, 1) := by decide +kernel
theorem dX0_pinned_2 : decode cX0_pinned 2 = .ok (.iconst 0, 1) := by decide +kernel
theorem dX0_pinned_3 : decode cX0_pinned 3 = .ok (.istore_n 2, 1) := by decide +kernel
theorem dX0_pinned_4 : decode cX0_pinned 4 = .ok (.iload_n 2, 1) := by decide +kernel
theorem dX0_pinned_5 : decode cX0_pinned 5 = .ok (.aload_n 0, 1) := by decide +kernel
theorem dX0_pinned_6 : decode cX0_pinned 6 = .ok (.getfield 13, 3) := by decide +kernel
theorem dX0_pinned_9 : decode cX0_pinned 9 = .ok (.if_icmp .ge 21, 3) := by decide +kernel
theorem dX0_pinned_12 : decode cX0_pinned 12 = .ok (.aload_n 0, 1) := by decide +kernel
theorem dX0_pinned_13 : decode cX0_pinned 13 = .ok (.getfield 33, 3) := by decide +kernel
theorem dX0_pinned_16 : decode cX0_pinned 16 = .ok (.iload_n 2, 1) := by decide +kernel
theorem dX0_pinned_17 : decode cX0_pinned 17 = .ok (.iaload, 1) := by decide +kernel
theorem dX0_pinned_18 : decode cX0_pinned 18 = .ok (.ifCond .le 6, 3) := by decide +kernel
theorem dX0_pinned_21 : decode cX0_pinned 21 = .ok (.iinc 1 1, 3) := by decide +kernel
theorem dX0_pinned_24 : decode cX0_pinned 24 = .ok (.iinc 2 1, 3) := by decide +kernel
theorem dX0_pinned_27 : decode cX0_pinned 27 = .ok (.goto (-23), 3) := by decide +kernel
theorem dX0_pinned_30 : decode cX0_pinned 30 = .ok (.iload_n 1, 1) := by decide +kernel
theorem dX0_pinned_31 : decode cX0_pinned 31 = .ok (.ireturn, 1) := by decide +kernel
theorem dX0_within_0 : decode cX0_within 0 = .ok (.iconst 1, 1) := by decide +kernel
theorem dX0_within_1 : decode cX0_within 1 = .ok (.iload_n 0, 1) := by decide +kernel
theorem dX0_within_2 : decode cX0_within 2 = .ok (.iload_n 1, 1) := by decide +kernel
theorem dX0_within_3 : decode cX0_within 3 = .ok (.invokestatic 91, 3) := by decide +kernel
theorem dX0_within_6 : decode cX0_within 6 = .ok (.invokestatic 96, 3) := by decide +kernel
theorem dX0_within_9 : decode cX0_within 9 = .ok (.ireturn, 1) := by decide +kernel
theorem dX0_isPage_0 : decode cX0_isPage 0 = .ok (.iload_n 1, 1) := by decide +kernel
theorem dX0_isPage_1 : decode cX0_isPage 1 = .ok (.ifCond .lt 15, 3) := by decide +kernel
theorem dX0_isPage_4 : decode cX0_isPage 4 = .ok (.iload_n 1, 1) := by decide +kernel
theorem dX0_isPage_5 : decode cX0_isPage 5 = .ok (.aload_n 0, 1) := by decide +kernel
theorem dX0_isPage_6 : decode cX0_isPage 6 = .ok (.getfield 17, 3) := by decide +kernel
theorem dX0_isPage_9 : decode cX0_isPage 9 = .ok (.if_icmp .ge 7, 3) := by decide +kernel
theorem dX0_isPage_12 : decode cX0_isPage 12 = .ok (.iconst 1, 1) := by decide +kernel
theorem dX0_isPage_13 : decode cX0_isPage 13 = .ok (.goto 4, 3) := by decide +kernel
theorem dX0_isPage_16 : decode cX0_isPage 16 = .ok (.iconst 0, 1) := by decide +kernel
theorem dX0_isPage_17 : decode cX0_isPage 17 = .ok (.ireturn, 1) := by decide +kernel
theorem dX0_isOffset_0 : decode cX0_isOffset 0 = .ok (.iload_n 1, 1) := by decide +kernel
theorem dX0_isOffset_1 : decode cX0_isOffset 1 = .ok (.ifCond .lt 15, 3) := by decide +kernel
theorem dX0_isOffset_4 : decode cX0_isOffset 4 = .ok (.iload_n 1, 1) := by decide +kernel
theorem dX0_isOffset_5 : decode cX0_isOffset 5 = .ok (.aload_n 0, 1) := by decide +kernel
theorem dX0_isOffset_6 : decode cX0_isOffset 6 = .ok (.getfield 20, 3) := by decide +kernel
theorem dX0_isOffset_9 : decode cX0_isOffset 9 = .ok (.if_icmp .ge 7, 3) := by decide +kernel
theorem dX0_isOffset_12 : decode cX0_isOffset 12 = .ok (.iconst 1, 1) := by decide +kernel
theorem dX0_isOffset_13 : decode cX0_isOffset 13 = .ok (.goto 4, 3) := by decide +kernel
theorem dX0_isOffset_16 : decode cX0_isOffset 16 = .ok (.iconst 0, 1) := by decide +kernel
theorem dX0_isOffset_17 : decode cX0_isOffset 17 = .ok (.ireturn, 1) := by decide +kernel
theorem dX0_isFrame_0 : decode cX0_isFrame 0 = .ok (.iload_n 1, 1) := by decide +kernel
theorem dX0_isFrame_1 : decode cX0_isFrame 1 = .ok (.ifCond .lt 15, 3) := by decide +kernel
theorem dX0_isFrame_4 : decode cX0_isFrame 4 = .ok (.iload_n 1, 1) := by decide +kernel
theorem dX0_isFrame_5 : decode cX0_isFrame 5 = .ok (.aload_n 0, 1) := by decide +kernel
theorem dX0_isFrame_6 : decode cX0_isFrame 6 = .ok (.getfield 13, 3) := by decide +kernel
theorem dX0_isFrame_9 : decode cX0_isFrame 9 = .ok (.if_icmp .ge 7, 3) := by decide +kernel
theorem dX0_isFrame_12 : decode cX0_isFrame 12 = .ok (.iconst 1, 1) := by decide +kernel
theorem dX0_isFrame_13 : decode cX0_isFrame 13 = .ok (.goto 4, 3) := by decide +kernel
theorem dX0_isFrame_16 : decode cX0_isFrame 16 = .ok (.iconst 0, 1) := by decide +kernel
theorem dX0_isFrame_17 : decode cX0_isFrame 17 = .ok (.ireturn, 1) := by decide +kernel
set_option maxRecDepth 20000 in
theorem ggX0_isPinnedFrame_X0_isFrame : GoodIn wsX0_isPinnedFrame wsX0_isFrame := goodIn_r _ [6, 7, 8, 9, 10, 11, 12, 13, 14, 15, 16, 17, 18, 19] (by decide +kernel) (by decide +kernel)
set_option maxRecDepth 20000 in
theorem gX0_isPinnedFrame_X0_isFrame : GoodIn wsX0_isPinnedFrame (wsV RX0 88 RX0 yX0_isFrame wsX0_isFrame) := goodIn_app (goodIn_of _ (by decide +kernel)) ggX0_isPinnedFrame_X0_isFrame
theorem dX0_isPinnedFrame_0 : decode cX0_isPinnedFrame 0 = .ok (.aload_n 0, 1) := by decide +kernel
theorem dX0_isPinnedFrame_1 : decode cX0_isPinnedFrame 1 = .ok (.iload_n 1, 1) := by decide +kernel
theorem dX0_isPinnedFrame_2 : decode cX0_isPinnedFrame 2 = .ok (.invokevirtual 88, 3) := by decide +kernel
theorem dX0_isPinnedFrame_5 : decode cX0_isPinnedFrame 5 = .ok (.ifCond .eq 16, 3) := by decide +kernel
theorem dX0_isPinnedFrame_8 : decode cX0_isPinnedFrame 8 = .ok (.aload_n 0, 1) := by decide +kernel
theorem dX0_isPinnedFrame_9 : decode cX0_isPinnedFrame 9 = .ok (.getfield 33, 3) := by decide +kernel
theorem dX0_isPinnedFrame_12 : decode cX0_isPinnedFrame 12 = .ok (.iload_n 1, 1) := by decide +kernel
theorem dX0_isPinnedFrame_13 : decode cX0_isPinnedFrame 13 = .ok (.iaload, 1) := by decide +kernel
theorem dX0_isPinnedFrame_14 : decode cX0_isPinnedFrame 14 = .ok (.ifCond .le 7, 3) := by decide +kernel
theorem dX0_isPinnedFrame_17 : decode cX0_isPinnedFrame 17 = .ok (.iconst 1, 1) := by decide +kernel
theorem dX0_isPinnedFrame_18 : decode cX0_isPinnedFrame 18 = .ok (.goto 4, 3) := by decide +kernel
theorem dX0_isPinnedFrame_21 : decode cX0_isPinnedFrame 21 = .ok (.iconst 0, 1) := by decide +kernel
theorem dX0_isPinnedFrame_22 : decode cX0_isPinnedFrame 22 = .ok (.ireturn, 1) := by decide +kernel
set_option maxRecDepth 20000 in
theorem ggX0_frameOf_X0_isPage : GoodIn wsX0_frameOf wsX0_isPage := goodIn_r _ [7, 8, 9, 10, 11, 12, 13, 14, 15, 16, 17, 18, 19, 20] (by decide +kernel) (by decide +kernel)
set_option maxRecDepth 20000 in
theorem gX0_frameOf_X0_isPage : GoodIn wsX0_frameOf (wsV RX0 59 RX0 yX0_isPage wsX0_isPage) := goodIn_app (goodIn_of _ (by decide +kernel)) ggX0_frameOf_X0_isPage
theorem dX0_frameOf_0 : decode cX0_frameOf 0 = .ok (.aload_n 0, 1) := by decide +kernel
theorem dX0_frameOf_1 : decode cX0_frameOf 1 = .ok (.iload_n 1, 1) := by decide +kernel
theorem dX0_frameOf_2 : decode cX0_frameOf 2 = .ok (.invokevirtual 59, 3) := by decide +kernel
theorem dX0_frameOf_5 : decode cX0_frameOf 5 = .ok (.ifCond .ne 5, 3) := by decide +kernel
theorem dX0_frameOf_8 : decode cX0_frameOf 8 = .ok (.iconst (-1), 1) := by decide +kernel
theorem dX0_frameOf_9 : decode cX0_frameOf 9 = .ok (.ireturn, 1) := by decide +kernel
theorem dX0_frameOf_10 : decode cX0_frameOf 10 = .ok (.iconst 0, 1) := by decide +kernel
theorem dX0_frameOf_11 : decode cX0_frameOf 11 = .ok (.istore_n 2, 1) := by decide +kernel
theorem dX0_frameOf_12 : decode cX0_frameOf 12 = .ok (.iload_n 2, 1) := by decide +kernel
theorem dX0_frameOf_13 : decode cX0_frameOf 13 = .ok (.aload_n 0, 1) := by decide +kernel
theorem dX0_frameOf_14 : decode cX0_frameOf 14 = .ok (.getfield 13, 3) := by decide +kernel
theorem dX0_frameOf_17 : decode cX0_frameOf 17 = .ok (.if_icmp .ge 21, 3) := by decide +kernel
theorem dX0_frameOf_20 : decode cX0_frameOf 20 = .ok (.aload_n 0, 1) := by decide +kernel
theorem dX0_frameOf_21 : decode cX0_frameOf 21 = .ok (.getfield 30, 3) := by decide +kernel
theorem dX0_frameOf_24 : decode cX0_frameOf 24 = .ok (.iload_n 2, 1) := by decide +kernel
theorem dX0_frameOf_25 : decode cX0_frameOf 25 = .ok (.iaload, 1) := by decide +kernel
theorem dX0_frameOf_26 : decode cX0_frameOf 26 = .ok (.iload_n 1, 1) := by decide +kernel
theorem dX0_frameOf_27 : decode cX0_frameOf 27 = .ok (.if_icmp .ne 5, 3) := by decide +kernel
theorem dX0_frameOf_30 : decode cX0_frameOf 30 = .ok (.iload_n 2, 1) := by decide +kernel
theorem dX0_frameOf_31 : decode cX0_frameOf 31 = .ok (.ireturn, 1) := by decide +kernel
theorem dX0_frameOf_32 : decode cX0_frameOf 32 = .ok (.iinc 2 1, 3) := by decide +kernel
theorem dX0_frameOf_35 : decode cX0_frameOf 35 = .ok (.goto (-23), 3) := by decide +kernel
theorem dX0_frameOf_38 : decode cX0_frameOf 38 = .ok (.iconst (-1), 1) := by decide +kernel
theorem dX0_frameOf_39 : decode cX0_frameOf 39 = .ok (.ireturn, 1) := by decide +kernel
set_option maxRecDepth 20000 in
theorem ggX0_findFrame_X0_pinned : GoodIn wsX0_findFrame wsX0_pinned := goodIn_r _ [7, 1, 8, 40, 41, 42, 43, 44, 45, 46, 47, 48, 49, 50, 51] (by decide +kernel) (by decide +kernel)
set_option maxRecDepth 20000 in
theorem gX0_findFrame_X0_pinned : GoodIn wsX0_findFrame (wsV RX0 99 RX0 yX0_pinned wsX0_pinned) := goodIn_app (goodIn_of _ (by decide +kernel)) ggX0_findFrame_X0_pinned
set_option maxRecDepth 20000 in
theorem ggX0_findFrame_X0_moveHand : GoodIn wsX0_findFrame wsX0_moveHand := goodIn_r _ [12, 2, 1, 40, 41, 42, 43, 44, 45, 46, 47, 48, 49, 50, 51] (by decide +kernel) (by decide +kernel)
set_option maxRecDepth 20000 in
theorem gX0_findFrame_X0_moveHand : GoodIn wsX0_findFrame (wsV RX0 102 RX0 yX0_moveHand wsX0_moveHand) := goodIn_app (goodIn_of _ (by decide +kernel)) ggX0_findFrame_X0_moveHand
set_option maxRecDepth 20000 in
theorem ggX0_findFrame_X0_givesWay : GoodIn wsX0_findFrame wsX0_givesWay := goodIn_r _ [16, 8, 17, 18, 19, 20, 21, 22, 6, 23, 24, 25, 26, 27, 28, 29, 30, 31, 32, 33, 34, 35, 36, 37, 38, 39, 40, 41, 42, 43, 44, 45, 46, 47, 48, 49, 50, 51] (by decide +kernel) (by decide +kernel)
set_option maxRecDepth 20000 in
theorem gX0_findFrame_X0_givesWay : GoodIn wsX0_findFrame (wsV RX0 105 RX0 yX0_givesWay wsX0_givesWay) := goodIn_app (goodIn_of _ (by decide +kernel)) ggX0_findFrame_X0_givesWay
theorem dX0_findFrame_0 : decode cX0_findFrame 0 = .ok (.aload_n 0, 1) := by decide +kernel
theorem dX0_findFrame_1 : decode cX0_findFrame 1 = .ok (.invokevirtual 99, 3) := by decide +kernel
theorem dX0_findFrame_4 : decode cX0_findFrame 4 = .ok (.aload_n 0, 1) := by decide +kernel
theorem dX0_findFrame_5 : decode cX0_findFrame 5 = .ok (.getfield 13, 3) := by decide +kernel
theorem dX0_findFrame_8 : decode cX0_findFrame 8 = .ok (.if_icmp .ne 5, 3) := by decide +kernel
theorem dX0_findFrame_11 : decode cX0_findFrame 11 = .ok (.iconst (-1), 1) := by decide +kernel
theorem dX0_findFrame_12 : decode cX0_findFrame 12 = .ok (.ireturn, 1) := by decide +kernel
theorem dX0_findFrame_13 : decode cX0_findFrame 13 = .ok (.iconst 0, 1) := by decide +kernel
theorem dX0_findFrame_14 : decode cX0_findFrame 14 = .ok (.istore_n 1, 1) := by decide +kernel
theorem dX0_findFrame_15 : decode cX0_findFrame 15 = .ok (.iload_n 1, 1) := by decide +kernel
theorem dX0_findFrame_16 : decode cX0_findFrame 16 = .ok (.iconst 2, 1) := by decide +kernel
theorem dX0_findFrame_17 : decode cX0_findFrame 17 = .ok (.aload_n 0, 1) := by decide +kernel
theorem dX0_findFrame_18 : decode cX0_findFrame 18 = .ok (.getfield 13, 3) := by decide +kernel
theorem dX0_findFrame_21 : decode cX0_findFrame 21 = .ok (.imul, 1) := by decide +kernel
theorem dX0_findFrame_22 : decode cX0_findFrame 22 = .ok (.if_icmp .ge 28, 3) := by decide +kernel
theorem dX0_findFrame_25 : decode cX0_findFrame 25 = .ok (.aload_n 0, 1) := by decide +kernel
theorem dX0_findFrame_26 : decode cX0_findFrame 26 = .ok (.getfield 50, 3) := by decide +kernel
theorem dX0_findFrame_29 : decode cX0_findFrame 29 = .ok (.istore_n 2, 1) := by decide +kernel
theorem dX0_findFrame_30 : decode cX0_findFrame 30 = .ok (.aload_n 0, 1) := by decide +kernel
theorem dX0_findFrame_31 : decode cX0_findFrame 31 = .ok (.invokevirtual 102, 3) := by decide +kernel
theorem dX0_findFrame_34 : decode cX0_findFrame 34 = .ok (.aload_n 0, 1) := by decide +kernel
theorem dX0_findFrame_35 : decode cX0_findFrame 35 = .ok (.iload_n 2, 1) := by decide +kernel
theorem dX0_findFrame_36 : decode cX0_findFrame 36 = .ok (.invokevirtual 105, 3) := by decide +kernel
theorem dX0_findFrame_39 : decode cX0_findFrame 39 = .ok (.ifCond .eq 5, 3) := by decide +kernel
theorem dX0_findFrame_42 : decode cX0_findFrame 42 = .ok (.iload_n 2, 1) := by decide +kernel
theorem dX0_findFrame_43 : decode cX0_findFrame 43 = .ok (.ireturn, 1) := by decide +kernel
theorem dX0_findFrame_44 : decode cX0_findFrame 44 = .ok (.iinc 1 1, 3) := by decide +kernel
theorem dX0_findFrame_47 : decode cX0_findFrame 47 = .ok (.goto (-32), 3) := by decide +kernel
theorem dX0_findFrame_50 : decode cX0_findFrame 50 = .ok (.iconst (-1), 1) := by decide +kernel
theorem dX0_findFrame_51 : decode cX0_findFrame 51 = .ok (.ireturn, 1) := by decide +kernel
theorem dX0_moveHand_0 : decode cX0_moveHand 0 = .ok (.aload_n 0, 1) := by decide +kernel
theorem dX0_moveHand_1 : decode cX0_moveHand 1 = .ok (.aload_n 0, 1) := by decide +kernel
theorem dX0_moveHand_2 : decode cX0_moveHand 2 = .ok (.getfield 50, 3) := by decide +kernel
theorem dX0_moveHand_5 : decode cX0_moveHand 5 = .ok (.iconst 1, 1) := by decide +kernel
theorem dX0_moveHand_6 : decode cX0_moveHand 6 = .ok (.iadd, 1) := by decide +kernel
theorem dX0_moveHand_7 : decode cX0_moveHand 7 = .ok (.aload_n 0, 1) := by decide +kernel
theorem dX0_moveHand_8 : decode cX0_moveHand 8 = .ok (.getfield 13, 3) := by decide +kernel
theorem dX0_moveHand_11 : decode cX0_moveHand 11 = .ok (.if_icmp .ge 12, 3) := by decide +kernel
theorem dX0_moveHand_14 : decode cX0_moveHand 14 = .ok (.aload_n 0, 1) := by decide +kernel
theorem dX0_moveHand_15 : decode cX0_moveHand 15 = .ok (.getfield 50, 3) := by decide +kernel
theorem dX0_moveHand_18 : decode cX0_moveHand 18 = .ok (.iconst 1, 1) := by decide +kernel
theorem dX0_moveHand_19 : decode cX0_moveHand 19 = .ok (.iadd, 1) := by decide +kernel
theorem dX0_moveHand_20 : decode cX0_moveHand 20 = .ok (.goto 4, 3) := by decide +kernel
theorem dX0_moveHand_23 : decode cX0_moveHand 23 = .ok (.iconst 0, 1) := by decide +kernel
theorem dX0_moveHand_24 : decode cX0_moveHand 24 = .ok (.putfield 50, 3) := by decide +kernel
theorem dX0_moveHand_27 : decode cX0_moveHand 27 = .ok (.return_, 1) := by decide +kernel
set_option maxRecDepth 20000 in
theorem ggX0_givesWay_X0_writeBack : GoodIn wsX0_givesWay wsX0_writeBack := goodIn_r _ [9, 10, 11, 2, 4, 12, 13, 14, 15, 8, 16, 17, 18, 19, 20, 21, 26, 27, 28, 29, 30, 31, 32, 33, 34, 35, 36, 37] (by decide +kernel) (by decide +kernel)
set_option maxRecDepth 20000 in
theorem gX0_givesWay_X0_writeBack : GoodIn wsX0_givesWay (wsV RX0 81 RX0 yX0_writeBack wsX0_writeBack) := goodIn_app (goodIn_of _ (by decide +kernel)) ggX0_givesWay_X0_writeBack
set_option maxRecDepth 20000 in
theorem ggX0_givesWay_X0_makeEmpty : GoodIn wsX0_givesWay wsX0_makeEmpty := goodIn_r _ [25, 2, 1, 4, 3, 26, 27, 28, 29, 30, 31, 32, 33, 34, 35, 36, 37] (by decide +kernel) (by decide +kernel)
set_option maxRecDepth 20000 in
theorem gX0_givesWay_X0_makeEmpty : GoodIn wsX0_givesWay (wsV RX0 46 RX0 yX0_makeEmpty wsX0_makeEmpty) := goodIn_app (goodIn_of _ (by decide +kernel)) ggX0_givesWay_X0_makeEmpty
theorem dX0_givesWay_0 : decode cX0_givesWay 0 = .ok (.aload_n 0, 1) := by decide +kernel
theorem dX0_givesWay_1 : decode cX0_givesWay 1 = .ok (.getfield 33, 3) := by decide +kernel
theorem dX0_givesWay_4 : decode cX0_givesWay 4 = .ok (.iload_n 1, 1) := by decide +kernel
theorem dX0_givesWay_5 : decode cX0_givesWay 5 = .ok (.iaload, 1) := by decide +kernel
theorem dX0_givesWay_6 : decode cX0_givesWay 6 = .ok (.ifCond .le 5, 3) := by decide +kernel
theorem dX0_givesWay_9 : decode cX0_givesWay 9 = .ok (.iconst 0, 1) := by decide +kernel
theorem dX0_givesWay_10 : decode cX0_givesWay 10 = .ok (.ireturn, 1) := by decide +kernel
theorem dX0_givesWay_11 : decode cX0_givesWay 11 = .ok (.aload_n 0, 1) := by decide +kernel
theorem dX0_givesWay_12 : decode cX0_givesWay 12 = .ok (.getfield 30, 3) := by decide +kernel
theorem dX0_givesWay_15 : decode cX0_givesWay 15 = .ok (.iload_n 1, 1) := by decide +kernel
theorem dX0_givesWay_16 : decode cX0_givesWay 16 = .ok (.iaload, 1) := by decide +kernel
theorem dX0_givesWay_17 : decode cX0_givesWay 17 = .ok (.iconst (-1), 1) := by decide +kernel
theorem dX0_givesWay_18 : decode cX0_givesWay 18 = .ok (.if_icmp .ne 5, 3) := by decide +kernel
theorem dX0_givesWay_21 : decode cX0_givesWay 21 = .ok (.iconst 1, 1) := by decide +kernel
theorem dX0_givesWay_22 : decode cX0_givesWay 22 = .ok (.ireturn, 1) := by decide +kernel
theorem dX0_givesWay_23 : decode cX0_givesWay 23 = .ok (.aload_n 0, 1) := by decide +kernel
theorem dX0_givesWay_24 : decode cX0_givesWay 24 = .ok (.getfield 40, 3) := by decide +kernel
theorem dX0_givesWay_27 : decode cX0_givesWay 27 = .ok (.iload_n 1, 1) := by decide +kernel
theorem dX0_givesWay_28 : decode cX0_givesWay 28 = .ok (.baload, 1) := by decide +kernel
theorem dX0_givesWay_29 : decode cX0_givesWay 29 = .ok (.ifCond .eq 12, 3) := by decide +kernel
theorem dX0_givesWay_32 : decode cX0_givesWay 32 = .ok (.aload_n 0, 1) := by decide +kernel
theorem dX0_givesWay_33 : decode cX0_givesWay 33 = .ok (.getfield 40, 3) := by decide +kernel
theorem dX0_givesWay_36 : decode cX0_givesWay 36 = .ok (.iload_n 1, 1) := by decide +kernel
theorem dX0_givesWay_37 : decode cX0_givesWay 37 = .ok (.iconst 0, 1) := by decide +kernel
theorem dX0_givesWay_38 : decode cX0_givesWay 38 = .ok (.bastore, 1) := by decide +kernel
theorem dX0_givesWay_39 : decode cX0_givesWay 39 = .ok (.iconst 0, 1) := by decide +kernel
theorem dX0_givesWay_40 : decode cX0_givesWay 40 = .ok (.ireturn, 1) := by decide +kernel
theorem dX0_givesWay_41 : decode cX0_givesWay 41 = .ok (.aload_n 0, 1) := by decide +kernel
theorem dX0_givesWay_42 : decode cX0_givesWay 42 = .ok (.getfield 36, 3) := by decide +kernel
theorem dX0_givesWay_45 : decode cX0_givesWay 45 = .ok (.iload_n 1, 1) := by decide +kernel
theorem dX0_givesWay_46 : decode cX0_givesWay 46 = .ok (.baload, 1) := by decide +kernel
theorem dX0_givesWay_47 : decode cX0_givesWay 47 = .ok (.ifCond .eq 8, 3) := by decide +kernel
theorem dX0_givesWay_50 : decode cX0_givesWay 50 = .ok (.aload_n 0, 1) := by decide +kernel
theorem dX0_givesWay_51 : decode cX0_givesWay 51 = .ok (.iload_n 1, 1) := by decide +kernel
theorem dX0_givesWay_52 : decode cX0_givesWay 52 = .ok (.invokevirtual 81, 3) := by decide +kernel
theorem dX0_givesWay_55 : decode cX0_givesWay 55 = .ok (.aload_n 0, 1) := by decide +kernel
theorem dX0_givesWay_56 : decode cX0_givesWay 56 = .ok (.iload_n 1, 1) := by decide +kernel
theorem dX0_givesWay_57 : decode cX0_givesWay 57 = .ok (.invokevirtual 46, 3) := by decide +kernel
theorem dX0_givesWay_60 : decode cX0_givesWay 60 = .ok (.iconst 1, 1) := by decide +kernel
theorem dX0_givesWay_61 : decode cX0_givesWay 61 = .ok (.ireturn, 1) := by decide +kernel
theorem dX0_makeEmpty_0 : decode cX0_makeEmpty 0 = .ok (.aload_n 0, 1) := by decide +kernel
theorem dX0_makeEmpty_1 : decode cX0_makeEmpty 1 = .ok (.getfield 30, 3) := by decide +kernel
theorem dX0_makeEmpty_4 : decode cX0_makeEmpty 4 = .ok (.iload_n 1, 1) := by decide +kernel
theorem dX0_makeEmpty_5 : decode cX0_makeEmpty 5 = .ok (.iconst (-1), 1) := by decide +kernel
theorem dX0_makeEmpty_6 : decode cX0_makeEmpty 6 = .ok (.iastore, 1) := by decide +kernel
theorem dX0_makeEmpty_7 : decode cX0_makeEmpty 7 = .ok (.aload_n 0, 1) := by decide +kernel
theorem dX0_makeEmpty_8 : decode cX0_makeEmpty 8 = .ok (.getfield 33, 3) := by decide +kernel
theorem dX0_makeEmpty_11 : decode cX0_makeEmpty 11 = .ok (.iload_n 1, 1) := by decide +kernel
theorem dX0_makeEmpty_12 : decode cX0_makeEmpty 12 = .ok (.iconst 0, 1) := by decide +kernel
theorem dX0_makeEmpty_13 : decode cX0_makeEmpty 13 = .ok (.iastore, 1) := by decide +kernel
theorem dX0_makeEmpty_14 : decode cX0_makeEmpty 14 = .ok (.aload_n 0, 1) := by decide +kernel
theorem dX0_makeEmpty_15 : decode cX0_makeEmpty 15 = .ok (.getfield 36, 3) := by decide +kernel
theorem dX0_makeEmpty_18 : decode cX0_makeEmpty 18 = .ok (.iload_n 1, 1) := by decide +kernel
theorem dX0_makeEmpty_19 : decode cX0_makeEmpty 19 = .ok (.iconst 0, 1) := by decide +kernel
theorem dX0_makeEmpty_20 : decode cX0_makeEmpty 20 = .ok (.bastore, 1) := by decide +kernel
theorem dX0_makeEmpty_21 : decode cX0_makeEmpty 21 = .ok (.aload_n 0, 1) := by decide +kernel
theorem dX0_makeEmpty_22 : decode cX0_makeEmpty 22 = .ok (.getfield 40, 3) := by decide +kernel
theorem dX0_makeEmpty_25 : decode cX0_makeEmpty 25 = .ok (.iload_n 1, 1) := by decide +kernel
theorem dX0_makeEmpty_26 : decode cX0_makeEmpty 26 = .ok (.iconst 0, 1) := by decide +kernel
theorem dX0_makeEmpty_27 : decode cX0_makeEmpty 27 = .ok (.bastore, 1) := by decide +kernel
theorem dX0_makeEmpty_28 : decode cX0_makeEmpty 28 = .ok (.return_, 1) := by decide +kernel
set_option maxRecDepth 20000 in
theorem ggX0_readInto_X0_copyWords : GoodIn wsX0_readInto wsX0_copyWords := goodIn_r _ [9, 10, 11, 12, 13, 14, 15, 16, 17, 18, 19, 20, 21, 22, 23, 24, 25, 26] (by decide +kernel) (by decide +kernel)
set_option maxRecDepth 20000 in
theorem gX0_readInto_X0_copyWords : GoodIn wsX0_readInto (wsV RX0 84 RX0 yX0_copyWords wsX0_copyWords) := goodIn_app (goodIn_of _ (by decide +kernel)) ggX0_readInto_X0_copyWords
theorem dX0_readInto_0 : decode cX0_readInto 0 = .ok (.aload_n 0, 1) := by decide +kernel
theorem dX0_readInto_1 : decode cX0_readInto 1 = .ok (.aload_n 0, 1) := by decide +kernel
theorem dX0_readInto_2 : decode cX0_readInto 2 = .ok (.getfield 23, 3) := by decide +kernel
theorem dX0_readInto_5 : decode cX0_readInto 5 = .ok (.iload_n 2, 1) := by decide +kernel
theorem dX0_readInto_6 : decode cX0_readInto 6 = .ok (.aload_n 0, 1) := by decide +kernel
theorem dX0_readInto_7 : decode cX0_readInto 7 = .ok (.getfield 27, 3) := by decide +kernel
theorem dX0_readInto_10 : decode cX0_readInto 10 = .ok (.iload_n 1, 1) := by decide +kernel
theorem dX0_readInto_11 : decode cX0_readInto 11 = .ok (.invokevirtual 84, 3) := by decide +kernel
theorem dX0_readInto_14 : decode cX0_readInto 14 = .ok (.aload_n 0, 1) := by decide +kernel
theorem dX0_readInto_15 : decode cX0_readInto 15 = .ok (.getfield 30, 3) := by decide +kernel
theorem dX0_readInto_18 : decode cX0_readInto 18 = .ok (.iload_n 1, 1) := by decide +kernel
theorem dX0_readInto_19 : decode cX0_readInto 19 = .ok (.iload_n 2, 1) := by decide +kernel
theorem dX0_readInto_20 : decode cX0_readInto 20 = .ok (.iastore, 1) := by decide +kernel
theorem dX0_readInto_21 : decode cX0_readInto 21 = .ok (.aload_n 0, 1) := by decide +kernel
theorem dX0_readInto_22 : decode cX0_readInto 22 = .ok (.dup, 1) := by decide +kernel
theorem dX0_readInto_23 : decode cX0_readInto 23 = .ok (.getfield 53, 3) := by decide +kernel
theorem dX0_readInto_26 : decode cX0_readInto 26 = .ok (.iconst 1, 1) := by decide +kernel
theorem dX0_readInto_27 : decode cX0_readInto 27 = .ok (.iadd, 1) := by decide +kernel
theorem dX0_readInto_28 : decode cX0_readInto 28 = .ok (.putfield 53, 3) := by decide +kernel
theorem dX0_readInto_31 : decode cX0_readInto 31 = .ok (.return_, 1) := by decide +kernel
set_option maxRecDepth 20000 in
theorem ggX0_writeBack_X0_copyWords : GoodIn wsX0_writeBack wsX0_copyWords := goodIn_r _ [10, 11, 12, 13, 14, 15, 16, 17, 18, 19, 20, 21, 22, 23, 24, 25, 26, 27] (by decide +kernel) (by decide +kernel)
set_option maxRecDepth 20000 in
theorem gX0_writeBack_X0_copyWords : GoodIn wsX0_writeBack (wsV RX0 84 RX0 yX0_copyWords wsX0_copyWords) := goodIn_app (goodIn_of _ (by decide +kernel)) ggX0_writeBack_X0_copyWords
theorem dX0_writeBack_0 : decode cX0_writeBack 0 = .ok (.aload_n 0, 1) := by decide +kernel
theorem dX0_writeBack_1 : decode cX0_writeBack 1 = .ok (.aload_n 0, 1) := by decide +kernel
theorem dX0_writeBack_2 : decode cX0_writeBack 2 = .ok (.getfield 27, 3) := by decide +kernel
theorem dX0_writeBack_5 : decode cX0_writeBack 5 = .ok (.iload_n 1, 1) := by decide +kernel
theorem dX0_writeBack_6 : decode cX0_writeBack 6 = .ok (.aload_n 0, 1) := by decide +kernel
theorem dX0_writeBack_7 : decode cX0_writeBack 7 = .ok (.getfield 23, 3) := by decide +kernel
theorem dX0_writeBack_10 : decode cX0_writeBack 10 = .ok (.aload_n 0, 1) := by decide +kernel
theorem dX0_writeBack_11 : decode cX0_writeBack 11 = .ok (.getfield 30, 3) := by decide +kernel
theorem dX0_writeBack_14 : decode cX0_writeBack 14 = .ok (.iload_n 1, 1) := by decide +kernel
theorem dX0_writeBack_15 : decode cX0_writeBack 15 = .ok (.iaload, 1) := by decide +kernel
theorem dX0_writeBack_16 : decode cX0_writeBack 16 = .ok (.invokevirtual 84, 3) := by decide +kernel
theorem dX0_writeBack_19 : decode cX0_writeBack 19 = .ok (.aload_n 0, 1) := by decide +kernel
theorem dX0_writeBack_20 : decode cX0_writeBack 20 = .ok (.getfield 36, 3) := by decide +kernel
theorem dX0_writeBack_23 : decode cX0_writeBack 23 = .ok (.iload_n 1, 1) := by decide +kernel
theorem dX0_writeBack_24 : decode cX0_writeBack 24 = .ok (.iconst 0, 1) := by decide +kernel
theorem dX0_writeBack_25 : decode cX0_writeBack 25 = .ok (.bastore, 1) := by decide +kernel
theorem dX0_writeBack_26 : decode cX0_writeBack 26 = .ok (.aload_n 0, 1) := by decide +kernel
theorem dX0_writeBack_27 : decode cX0_writeBack 27 = .ok (.dup, 1) := by decide +kernel
theorem dX0_writeBack_28 : decode cX0_writeBack 28 = .ok (.getfield 56, 3) := by decide +kernel
theorem dX0_writeBack_31 : decode cX0_writeBack 31 = .ok (.iconst 1, 1) := by decide +kernel
theorem dX0_writeBack_32 : decode cX0_writeBack 32 = .ok (.iadd, 1) := by decide +kernel
theorem dX0_writeBack_33 : decode cX0_writeBack 33 = .ok (.putfield 56, 3) := by decide +kernel
theorem dX0_writeBack_36 : decode cX0_writeBack 36 = .ok (.return_, 1) := by decide +kernel
theorem dX0_copyWords_0 : decode cX0_copyWords 0 = .ok (.aload_n 1, 1) := by decide +kernel
theorem dX0_copyWords_1 : decode cX0_copyWords 1 = .ok (.iload_n 2, 1) := by decide +kernel
theorem dX0_copyWords_2 : decode cX0_copyWords 2 = .ok (.aload_n 0, 1) := by decide +kernel
theorem dX0_copyWords_3 : decode cX0_copyWords 3 = .ok (.getfield 20, 3) := by decide +kernel
theorem dX0_copyWords_6 : decode cX0_copyWords 6 = .ok (.imul, 1) := by decide +kernel
theorem dX0_copyWords_7 : decode cX0_copyWords 7 = .ok (.aload_n 3, 1) := by decide +kernel
theorem dX0_copyWords_8 : decode cX0_copyWords 8 = .ok (.iload 4, 2) := by decide +kernel
theorem dX0_copyWords_10 : decode cX0_copyWords 10 = .ok (.aload_n 0, 1) := by decide +kernel
theorem dX0_copyWords_11 : decode cX0_copyWords 11 = .ok (.getfield 20, 3) := by decide +kernel
theorem dX0_copyWords_14 : decode cX0_copyWords 14 = .ok (.imul, 1) := by decide +kernel
theorem dX0_copyWords_15 : decode cX0_copyWords 15 = .ok (.aload_n 0, 1) := by decide +kernel
theorem dX0_copyWords_16 : decode cX0_copyWords 16 = .ok (.getfield 20, 3) := by decide +kernel
theorem dX0_copyWords_19 : decode cX0_copyWords 19 = .ok (.invokestatic 108, 3) := by decide +kernel
theorem dX0_copyWords_22 : decode cX0_copyWords 22 = .ok (.return_, 1) := by decide +kernel
