theorem dX0_init_0 : decode cX0_init 0 = .ok (.aload_n 0, 1) := by decide +kernel
theorem dX0_init_1 : decode cX0_init 1 = .ok (.invokespecial 3, 3) := by decide +kernel
theorem dX0_init_4 : decode cX0_init 4 = .ok (.aload_n 0, 1) := by decide +kernel
theorem dX0_init_5 : decode cX0_init 5 = .ok (.iconst 0, 1) := by decide +kernel
theorem dX0_init_6 : decode cX0_init 6 = .ok (.putfield 9, 3) := by decide +kernel
theorem dX0_init_9 : decode cX0_init 9 = .ok (.aload_n 0, 1) := by decide +kernel
theorem dX0_init_10 : decode cX0_init 10 = .ok (.sipush 1600, 3) := by decide +kernel
theorem dX0_init_13 : decode cX0_init 13 = .ok (.newarray .int, 2) := by decide +kernel
theorem dX0_init_15 : decode cX0_init 15 = .ok (.putfield 15, 3) := by decide +kernel
theorem dX0_init_18 : decode cX0_init 18 = .ok (.aload_n 0, 1) := by decide +kernel
theorem dX0_init_19 : decode cX0_init 19 = .ok (.bipush 40, 2) := by decide +kernel
theorem dX0_init_21 : decode cX0_init 21 = .ok (.newarray .int, 2) := by decide +kernel
theorem dX0_init_23 : decode cX0_init 23 = .ok (.putfield 19, 3) := by decide +kernel
theorem dX0_init_26 : decode cX0_init 26 = .ok (.aload_n 0, 1) := by decide +kernel
theorem dX0_init_27 : decode cX0_init 27 = .ok (.iload_n 1, 1) := by decide +kernel
theorem dX0_init_28 : decode cX0_init 28 = .ok (.putfield 22, 3) := by decide +kernel
theorem dX0_init_31 : decode cX0_init 31 = .ok (.return_, 1) := by decide +kernel
set_option maxRecDepth 20000 in
theorem ggX0_drawLine_X0_drawRow : GoodIn wsX0_drawLine wsX0_drawRow := goodIn_r _ [8, 3, 9, 23, 24, 25, 26] (by decide +kernel) (by decide +kernel)
set_option maxRecDepth 20000 in
theorem gX0_drawLine_X0_drawRow : GoodIn wsX0_drawLine (wsV RX0 25 RX0 yX0_drawRow wsX0_drawRow) := goodIn_app (goodIn_of _ (by decide +kernel)) ggX0_drawLine_X0_drawRow
set_option maxRecDepth 20000 in
theorem ggX0_drawLine_X5_widthAfter : GoodIn wsX0_drawLine wsX5_widthAfter := goodIn_r _ [12, 13, 14, 11, 15, 16, 17, 18, 19, 20, 21, 22] (by decide +kernel) (by decide +kernel)
set_option maxRecDepth 20000 in
theorem gX0_drawLine_X5_widthAfter_n29 : GoodIn wsX0_drawLine (wsX5_widthAfter) := ggX0_drawLine_X5_widthAfter
theorem dX0_drawLine_0 : decode cX0_drawLine 0 = .ok (.iconst 0, 1) := by decide +kernel
theorem dX0_drawLine_1 : decode cX0_drawLine 1 = .ok (.istore 5, 2) := by decide +kernel
theorem dX0_drawLine_3 : decode cX0_drawLine 3 = .ok (.iload 5, 2) := by decide +kernel
theorem dX0_drawLine_5 : decode cX0_drawLine 5 = .ok (.iload 4, 2) := by decide +kernel
theorem dX0_drawLine_7 : decode cX0_drawLine 7 = .ok (.if_icmp .ge 62, 3) := by decide +kernel
theorem dX0_drawLine_10 : decode cX0_drawLine 10 = .ok (.aload_n 0, 1) := by decide +kernel
theorem dX0_drawLine_11 : decode cX0_drawLine 11 = .ok (.getfield 9, 3) := by decide +kernel
theorem dX0_drawLine_14 : decode cX0_drawLine 14 = .ok (.bipush 40, 2) := by decide +kernel
theorem dX0_drawLine_16 : decode cX0_drawLine 16 = .ok (.if_icmp .ge 53, 3) := by decide +kernel
theorem dX0_drawLine_19 : decode cX0_drawLine 19 = .ok (.aload_n 0, 1) := by decide +kernel
theorem dX0_drawLine_20 : decode cX0_drawLine 20 = .ok (.getfield 19, 3) := by decide +kernel
theorem dX0_drawLine_23 : decode cX0_drawLine 23 = .ok (.aload_n 0, 1) := by decide +kernel
theorem dX0_drawLine_24 : decode cX0_drawLine 24 = .ok (.getfield 9, 3) := by decide +kernel
theorem dX0_drawLine_27 : decode cX0_drawLine 27 = .ok (.aload_n 0, 1) := by decide +kernel
theorem dX0_drawLine_28 : decode cX0_drawLine 28 = .ok (.aload_n 0, 1) := by decide +kernel
theorem dX0_drawLine_29 : decode cX0_drawLine 29 = .ok (.getfield 9, 3) := by decide +kernel
theorem dX0_drawLine_32 : decode cX0_drawLine 32 = .ok (.bipush 40, 2) := by decide +kernel
theorem dX0_drawLine_34 : decode cX0_drawLine 34 = .ok (.imul, 1) := by decide +kernel
theorem dX0_drawLine_35 : decode cX0_drawLine 35 = .ok (.iload_n 1, 1) := by decide +kernel
theorem dX0_drawLine_36 : decode cX0_drawLine 36 = .ok (.iload_n 2, 1) := by decide +kernel
theorem dX0_drawLine_37 : decode cX0_drawLine 37 = .ok (.invokevirtual 25, 3) := by decide +kernel
theorem dX0_drawLine_40 : decode cX0_drawLine 40 = .ok (.iastore, 1) := by decide +kernel
theorem dX0_drawLine_41 : decode cX0_drawLine 41 = .ok (.aload_n 0, 1) := by decide +kernel
theorem dX0_drawLine_42 : decode cX0_drawLine 42 = .ok (.aload_n 0, 1) := by decide +kernel
theorem dX0_drawLine_43 : decode cX0_drawLine 43 = .ok (.getfield 22, 3) := by decide +kernel
theorem dX0_drawLine_46 : decode cX0_drawLine 46 = .ok (.iload_n 3, 1) := by decide +kernel
theorem dX0_drawLine_47 : decode cX0_drawLine 47 = .ok (.invokestatic 29, 3) := by decide +kernel
theorem dX0_drawLine_50 : decode cX0_drawLine 50 = .ok (.putfield 22, 3) := by decide +kernel
theorem dX0_drawLine_53 : decode cX0_drawLine 53 = .ok (.aload_n 0, 1) := by decide +kernel
theorem dX0_drawLine_54 : decode cX0_drawLine 54 = .ok (.dup, 1) := by decide +kernel
theorem dX0_drawLine_55 : decode cX0_drawLine 55 = .ok (.getfield 9, 3) := by decide +kernel
theorem dX0_drawLine_58 : decode cX0_drawLine 58 = .ok (.iconst 1, 1) := by decide +kernel
theorem dX0_drawLine_59 : decode cX0_drawLine 59 = .ok (.iadd, 1) := by decide +kernel
theorem dX0_drawLine_60 : decode cX0_drawLine 60 = .ok (.putfield 9, 3) := by decide +kernel
theorem dX0_drawLine_63 : decode cX0_drawLine 63 = .ok (.iinc 5 1, 3) := by decide +kernel
theorem dX0_drawLine_66 : decode cX0_drawLine 66 = .ok (.goto (-63), 3) := by decide +kernel
theorem dX0_drawLine_69 : decode cX0_drawLine 69 = .ok (.return_, 1) := by decide +kernel
theorem dX0_drawRow_0 : decode cX0_drawRow 0 = .ok (.iconst 0, 1) := by decide +kernel
theorem dX0_drawRow_1 : decode cX0_drawRow 1 = .ok (.istore 4, 2) := by decide +kernel
theorem dX0_drawRow_3 : decode cX0_drawRow 3 = .ok (.iconst 0, 1) := by decide +kernel
theorem dX0_drawRow_4 : decode cX0_drawRow 4 = .ok (.istore 5, 2) := by decide +kernel
theorem dX0_drawRow_6 : decode cX0_drawRow 6 = .ok (.iconst 0, 1) := by decide +kernel
theorem dX0_drawRow_7 : decode cX0_drawRow 7 = .ok (.istore 6, 2) := by decide +kernel
theorem dX0_drawRow_9 : decode cX0_drawRow 9 = .ok (.iload 6, 2) := by decide +kernel
theorem dX0_drawRow_11 : decode cX0_drawRow 11 = .ok (.aload_n 0, 1) := by decide +kernel
theorem dX0_drawRow_12 : decode cX0_drawRow 12 = .ok (.getfield 22, 3) := by decide +kernel
theorem dX0_drawRow_15 : decode cX0_drawRow 15 = .ok (.if_icmp .ge 70, 3) := by decide +kernel
theorem dX0_drawRow_18 : decode cX0_drawRow 18 = .ok (.iload 5, 2) := by decide +kernel
theorem dX0_drawRow_20 : decode cX0_drawRow 20 = .ok (.iload_n 2, 1) := by decide +kernel
theorem dX0_drawRow_21 : decode cX0_drawRow 21 = .ok (.if_icmp .ge 7, 3) := by decide +kernel
theorem dX0_drawRow_24 : decode cX0_drawRow 24 = .ok (.iconst 1, 1) := by decide +kernel
theorem dX0_drawRow_25 : decode cX0_drawRow 25 = .ok (.goto 4, 3) := by decide +kernel
theorem dX0_drawRow_28 : decode cX0_drawRow 28 = .ok (.iconst 0, 1) := by decide +kernel
theorem dX0_drawRow_29 : decode cX0_drawRow 29 = .ok (.istore 7, 2) := by decide +kernel
theorem dX0_drawRow_31 : decode cX0_drawRow 31 = .ok (.aload_n 0, 1) := by decide +kernel
theorem dX0_drawRow_32 : decode cX0_drawRow 32 = .ok (.getfield 15, 3) := by decide +kernel
theorem dX0_drawRow_35 : decode cX0_drawRow 35 = .ok (.iload_n 1, 1) := by decide +kernel
theorem dX0_drawRow_36 : decode cX0_drawRow 36 = .ok (.iload 6, 2) := by decide +kernel
theorem dX0_drawRow_38 : decode cX0_drawRow 38 = .ok (.iadd, 1) := by decide +kernel
theorem dX0_drawRow_39 : decode cX0_drawRow 39 = .ok (.iload 7, 2) := by decide +kernel
theorem dX0_drawRow_41 : decode cX0_drawRow 41 = .ok (.ifCond .eq 7, 3) := by decide +kernel
theorem dX0_drawRow_44 : decode cX0_drawRow 44 = .ok (.iconst 1, 1) := by decide +kernel
theorem dX0_drawRow_45 : decode cX0_drawRow 45 = .ok (.goto 4, 3) := by decide +kernel
theorem dX0_drawRow_48 : decode cX0_drawRow 48 = .ok (.iconst 2, 1) := by decide +kernel
theorem dX0_drawRow_49 : decode cX0_drawRow 49 = .ok (.iastore, 1) := by decide +kernel
theorem dX0_drawRow_50 : decode cX0_drawRow 50 = .ok (.iload 4, 2) := by decide +kernel
theorem dX0_drawRow_52 : decode cX0_drawRow 52 = .ok (.iload 7, 2) := by decide +kernel
theorem dX0_drawRow_54 : decode cX0_drawRow 54 = .ok (.ifCond .eq 7, 3) := by decide +kernel
theorem dX0_drawRow_57 : decode cX0_drawRow 57 = .ok (.iconst 2, 1) := by decide +kernel
theorem dX0_drawRow_58 : decode cX0_drawRow 58 = .ok (.goto 4, 3) := by decide +kernel
theorem dX0_drawRow_61 : decode cX0_drawRow 61 = .ok (.iconst 3, 1) := by decide +kernel
theorem dX0_drawRow_62 : decode cX0_drawRow 62 = .ok (.iadd, 1) := by decide +kernel
theorem dX0_drawRow_63 : decode cX0_drawRow 63 = .ok (.istore 4, 2) := by decide +kernel
theorem dX0_drawRow_65 : decode cX0_drawRow 65 = .ok (.iinc 5 1, 3) := by decide +kernel
theorem dX0_drawRow_68 : decode cX0_drawRow 68 = .ok (.iload 5, 2) := by decide +kernel
theorem dX0_drawRow_70 : decode cX0_drawRow 70 = .ok (.iload_n 2, 1) := by decide +kernel
theorem dX0_drawRow_71 : decode cX0_drawRow 71 = .ok (.iload_n 3, 1) := by decide +kernel
theorem dX0_drawRow_72 : decode cX0_drawRow 72 = .ok (.iadd, 1) := by decide +kernel
theorem dX0_drawRow_73 : decode cX0_drawRow 73 = .ok (.if_icmp .ne 6, 3) := by decide +kernel
theorem dX0_drawRow_76 : decode cX0_drawRow 76 = .ok (.iconst 0, 1) := by decide +kernel
theorem dX0_drawRow_77 : decode cX0_drawRow 77 = .ok (.istore 5, 2) := by decide +kernel
theorem dX0_drawRow_79 : decode cX0_drawRow 79 = .ok (.iinc 6 1, 3) := by decide +kernel
theorem dX0_drawRow_82 : decode cX0_drawRow 82 = .ok (.goto (-73), 3) := by decide +kernel
theorem dX0_drawRow_85 : decode cX0_drawRow 85 = .ok (.iload 4, 2) := by decide +kernel
theorem dX0_drawRow_87 : decode cX0_drawRow 87 = .ok (.ireturn, 1) := by decide +kernel
theorem dX0_stitchAt_0 : decode cX0_stitchAt 0 = .ok (.iload_n 2, 1) := by decide +kernel
theorem dX0_stitchAt_1 : decode cX0_stitchAt 1 = .ok (.bipush 40, 2) := by decide +kernel
theorem dX0_stitchAt_3 : decode cX0_stitchAt 3 = .ok (.if_icmp .ge 17, 3) := by decide +kernel
theorem dX0_stitchAt_6 : decode cX0_stitchAt 6 = .ok (.aload_n 0, 1) := by decide +kernel
theorem dX0_stitchAt_7 : decode cX0_stitchAt 7 = .ok (.getfield 15, 3) := by decide +kernel
theorem dX0_stitchAt_10 : decode cX0_stitchAt 10 = .ok (.iload_n 1, 1) := by decide +kernel
theorem dX0_stitchAt_11 : decode cX0_stitchAt 11 = .ok (.bipush 40, 2) := by decide +kernel
theorem dX0_stitchAt_13 : decode cX0_stitchAt 13 = .ok (.imul, 1) := by decide +kernel
theorem dX0_stitchAt_14 : decode cX0_stitchAt 14 = .ok (.iload_n 2, 1) := by decide +kernel
theorem dX0_stitchAt_15 : decode cX0_stitchAt 15 = .ok (.iadd, 1) := by decide +kernel
theorem dX0_stitchAt_16 : decode cX0_stitchAt 16 = .ok (.iaload, 1) := by decide +kernel
theorem dX0_stitchAt_17 : decode cX0_stitchAt 17 = .ok (.goto 4, 3) := by decide +kernel
theorem dX0_stitchAt_20 : decode cX0_stitchAt 20 = .ok (.iconst 0, 1) := by decide +kernel
theorem dX0_stitchAt_21 : decode cX0_stitchAt 21 = .ok (.ireturn, 1) := by decide +kernel
theorem dX0_yarnOf_0 : decode cX0_yarnOf 0 = .ok (.aload_n 0, 1) := by decide +kernel
theorem dX0_yarnOf_1 : decode cX0_yarnOf 1 = .ok (.getfield 19, 3) := by decide +kernel
theorem dX0_yarnOf_4 : decode cX0_yarnOf 4 = .ok (.iload_n 1, 1) := by decide +kernel
theorem dX0_yarnOf_5 : decode cX0_yarnOf 5 = .ok (.iaload, 1) := by decide +kernel
theorem dX0_yarnOf_6 : decode cX0_yarnOf 6 = .ok (.ireturn, 1) := by decide +kernel
theorem dX0_yarnOfAllRows_0 : decode cX0_yarnOfAllRows 0 = .ok (.iconst 0, 1) := by decide +kernel
theorem dX0_yarnOfAllRows_1 : decode cX0_yarnOfAllRows 1 = .ok (.istore_n 1, 1) := by decide +kernel
theorem dX0_yarnOfAllRows_2 : decode cX0_yarnOfAllRows 2 = .ok (.iconst 0, 1) := by decide +kernel
theorem dX0_yarnOfAllRows_3 : decode cX0_yarnOfAllRows 3 = .ok (.istore_n 2, 1) := by decide +kernel
theorem dX0_yarnOfAllRows_4 : decode cX0_yarnOfAllRows 4 = .ok (.iload_n 2, 1) := by decide +kernel
theorem dX0_yarnOfAllRows_5 : decode cX0_yarnOfAllRows 5 = .ok (.aload_n 0, 1) := by decide +kernel
theorem dX0_yarnOfAllRows_6 : decode cX0_yarnOfAllRows 6 = .ok (.getfield 9, 3) := by decide +kernel
theorem dX0_yarnOfAllRows_9 : decode cX0_yarnOfAllRows 9 = .ok (.if_icmp .ge 18, 3) := by decide +kernel
theorem dX0_yarnOfAllRows_12 : decode cX0_yarnOfAllRows 12 = .ok (.iload_n 1, 1) := by decide +kernel
theorem dX0_yarnOfAllRows_13 : decode cX0_yarnOfAllRows 13 = .ok (.aload_n 0, 1) := by decide +kernel
theorem dX0_yarnOfAllRows_14 : decode cX0_yarnOfAllRows 14 = .ok (.getfield 19, 3) := by decide +kernel
theorem dX0_yarnOfAllRows_17 : decode cX0_yarnOfAllRows 17 = .ok (.iload_n 2, 1) := by decide +kernel
theorem dX0_yarnOfAllRows_18 : decode cX0_yarnOfAllRows 18 = .ok (.iaload, 1) := by decide +kernel
theorem dX0_yarnOfAllRows_19 : decode cX0_yarnOfAllRows 19 = .ok (.iadd, 1) := by decide +kernel
theorem dX0_yarnOfAllRows_20 : decode cX0_yarnOfAllRows 20 = .ok (.istore_n 1, 1) := by decide +kernel
theorem dX0_yarnOfAllRows_21 : decode cX0_yarnOfAllRows 21 = .ok (.iinc 2 1, 3) := by decide +kernel
theorem dX0_yarnOfAllRows_24 : decode cX0_yarnOfAllRows 24 = .ok (.goto (-20), 3) := by decide +kernel
theorem dX0_yarnOfAllRows_27 : decode cX0_yarnOfAllRows 27 = .ok (.iload_n 1, 1) := by decide +kernel
theorem dX0_yarnOfAllRows_28 : decode cX0_yarnOfAllRows 28 = .ok (.ireturn, 1) := by decide +kernel
theorem dX0_isSameAs_0 : decode cX0_isSameAs 0 = .ok (.aload_n 0, 1) := by decide +kernel
theorem dX0_isSameAs_1 : decode cX0_isSameAs 1 = .ok (.getfield 9, 3) := by decide +kernel
theorem dX0_isSameAs_4 : decode cX0_isSameAs 4 = .ok (.aload_n 1, 1) := by decide +kernel
theorem dX0_isSameAs_5 : decode cX0_isSameAs 5 = .ok (.getfield 9, 3) := by decide +kernel
theorem dX0_isSameAs_8 : decode cX0_isSameAs 8 = .ok (.if_icmp .eq 5, 3) := by decide +kernel
theorem dX0_isSameAs_11 : decode cX0_isSameAs 11 = .ok (.iconst 0, 1) := by decide +kernel
theorem dX0_isSameAs_12 : decode cX0_isSameAs 12 = .ok (.ireturn, 1) := by decide +kernel
theorem dX0_isSameAs_13 : decode cX0_isSameAs 13 = .ok (.iconst 0, 1) := by decide +kernel
theorem dX0_isSameAs_14 : decode cX0_isSameAs 14 = .ok (.istore_n 2, 1) := by decide +kernel
theorem dX0_isSameAs_15 : decode cX0_isSameAs 15 = .ok (.iload_n 2, 1) := by decide +kernel
theorem dX0_isSameAs_16 : decode cX0_isSameAs 16 = .ok (.aload_n 0, 1) := by decide +kernel
theorem dX0_isSameAs_17 : decode cX0_isSameAs 17 = .ok (.getfield 9, 3) := by decide +kernel
theorem dX0_isSameAs_20 : decode cX0_isSameAs 20 = .ok (.bipush 40, 2) := by decide +kernel
theorem dX0_isSameAs_22 : decode cX0_isSameAs 22 = .ok (.imul, 1) := by decide +kernel
theorem dX0_isSameAs_23 : decode cX0_isSameAs 23 = .ok (.if_icmp .ge 26, 3) := by decide +kernel
theorem dX0_isSameAs_26 : decode cX0_isSameAs 26 = .ok (.aload_n 0, 1) := by decide +kernel
theorem dX0_isSameAs_27 : decode cX0_isSameAs 27 = .ok (.getfield 15, 3) := by decide +kernel
theorem dX0_isSameAs_30 : decode cX0_isSameAs 30 = .ok (.iload_n 2, 1) := by decide +kernel
theorem dX0_isSameAs_31 : decode cX0_isSameAs 31 = .ok (.iaload, 1) := by decide +kernel
theorem dX0_isSameAs_32 : decode cX0_isSameAs 32 = .ok (.aload_n 1, 1) := by decide +kernel
theorem dX0_isSameAs_33 : decode cX0_isSameAs 33 = .ok (.getfield 15, 3) := by decide +kernel
theorem dX0_isSameAs_36 : decode cX0_isSameAs 36 = .ok (.iload_n 2, 1) := by decide +kernel
theorem dX0_isSameAs_37 : decode cX0_isSameAs 37 = .ok (.iaload, 1) := by decide +kernel
theorem dX0_isSameAs_38 : decode cX0_isSameAs 38 = .ok (.if_icmp .eq 5, 3) := by decide +kernel
theorem dX0_isSameAs_41 : decode cX0_isSameAs 41 = .ok (.iconst 0, 1) := by decide +kernel
theorem dX0_isSameAs_42 : decode cX0_isSameAs 42 = .ok (.ireturn, 1) := by decide +kernel
theorem dX0_isSameAs_43 : decode cX0_isSameAs 43 = .ok (.iinc 2 1, 3) := by decide +kernel
theorem dX0_isSameAs_46 : decode cX0_isSameAs 46 = .ok (.goto (-31), 3) := by decide +kernel
theorem dX0_isSameAs_49 : decode cX0_isSameAs 49 = .ok (.iconst 1, 1) := by decide +kernel
theorem dX0_isSameAs_50 : decode cX0_isSameAs 50 = .ok (.ireturn, 1) := by decide +kernel
theorem dX1_init_0 : decode cX1_init 0 = .ok (.aload_n 0, 1) := by decide +kernel
theorem dX1_init_1 : decode cX1_init 1 = .ok (.invokespecial 1, 3) := by decide +kernel
theorem dX1_init_4 : decode cX1_init 4 = .ok (.aload_n 0, 1) := by decide +kernel
theorem dX1_init_5 : decode cX1_init 5 = .ok (.iload_n 1, 1) := by decide +kernel
theorem dX1_init_6 : decode cX1_init 6 = .ok (.putfield 7, 3) := by decide +kernel
theorem dX1_init_9 : decode cX1_init 9 = .ok (.aload_n 0, 1) := by decide +kernel
theorem dX1_init_10 : decode cX1_init 10 = .ok (.iload_n 3, 1) := by decide +kernel
theorem dX1_init_11 : decode cX1_init 11 = .ok (.putfield 13, 3) := by decide +kernel
theorem dX1_init_14 : decode cX1_init 14 = .ok (.aload_n 0, 1) := by decide +kernel
theorem dX1_init_15 : decode cX1_init 15 = .ok (.iload_n 2, 1) := by decide +kernel
theorem dX1_init_16 : decode cX1_init 16 = .ok (.putfield 16, 3) := by decide +kernel
theorem dX1_init_19 : decode cX1_init 19 = .ok (.aload_n 0, 1) := by decide +kernel
theorem dX1_init_20 : decode cX1_init 20 = .ok (.iload 4, 2) := by decide +kernel
theorem dX1_init_22 : decode cX1_init 22 = .ok (.putfield 19, 3) := by decide +kernel
theorem dX1_init_25 : decode cX1_init 25 = .ok (.return_, 1) := by decide +kernel
set_option maxRecDepth 20000 in
theorem ggX2_init_X3_init : GoodIn wsX2_init wsX3_init := goodIn_r _ [22, 23, 2, 3, 24, 25, 26, 27, 28, 29, 30, 48, 49, 50, 51, 52, 53] (by decide +kernel) (by decide +kernel)
set_option maxRecDepth 20000 in
theorem gX2_init_X3_init : GoodIn wsX2_init (wsX3_init) := ggX2_init_X3_init
set_option maxRecDepth 20000 in
theorem ggX2_init_X0_init : GoodIn wsX2_init wsX0_init := goodIn_r _ [33, 34, 2, 3, 35, 24, 36, 37, 38, 54, 55, 56, 57] (by decide +kernel) (by decide +kernel)
set_option maxRecDepth 20000 in
theorem gX2_init_X0_init : GoodIn wsX2_init (wsX0_init) := ggX2_init_X0_init
theorem dX2_init_0 : decode cX2_init 0 = .ok (.aload_n 0, 1) := by decide +kernel
theorem dX2_init_1 : decode cX2_init 1 = .ok (.invokespecial 3, 3) := by decide +kernel
theorem dX2_init_4 : decode cX2_init 4 = .ok (.aload_n 0, 1) := by decide +kernel
theorem dX2_init_5 : decode cX2_init 5 = .ok (.iconst 5, 1) := by decide +kernel
theorem dX2_init_6 : decode cX2_init 6 = .ok (.newarray .boolean, 2) := by decide +kernel
theorem dX2_init_8 : decode cX2_init 8 = .ok (.putfield 9, 3) := by decide +kernel
theorem dX2_init_11 : decode cX2_init 11 = .ok (.aload_n 0, 1) := by decide +kernel
theorem dX2_init_12 : decode cX2_init 12 = .ok (.aconst_null, 1) := by decide +kernel
theorem dX2_init_13 : decode cX2_init 13 = .ok (.putfield 15, 3) := by decide +kernel
theorem dX2_init_16 : decode cX2_init 16 = .ok (.aload_n 0, 1) := by decide +kernel
theorem dX2_init_17 : decode cX2_init 17 = .ok (.iconst 0, 1) := by decide +kernel
theorem dX2_init_18 : decode cX2_init 18 = .ok (.putfield 19, 3) := by decide +kernel
theorem dX2_init_21 : decode cX2_init 21 = .ok (.aload_n 0, 1) := by decide +kernel
theorem dX2_init_22 : decode cX2_init 22 = .ok (.iconst 0, 1) := by decide +kernel
theorem dX2_init_23 : decode cX2_init 23 = .ok (.putfield 23, 3) := by decide +kernel
theorem dX2_init_26 : decode cX2_init 26 = .ok (.aload_n 0, 1) := by decide +kernel
theorem dX2_init_27 : decode cX2_init 27 = .ok (.iload_n 1, 1) := by decide +kernel
theorem dX2_init_28 : decode cX2_init 28 = .ok (.putfield 27, 3) := by decide +kernel
theorem dX2_init_31 : decode cX2_init 31 = .ok (.aload_n 0, 1) := by decide +kernel
theorem dX2_init_32 : decode cX2_init 32 = .ok (.iload_n 2, 1) := by decide +kernel
theorem dX2_init_33 : decode cX2_init 33 = .ok (.putfield 30, 3) := by decide +kernel
theorem dX2_init_36 : decode cX2_init 36 = .ok (.aload_n 0, 1) := by decide +kernel
theorem dX2_init_37 : decode cX2_init 37 = .ok (.iload 4, 2) := by decide +kernel
theorem dX2_init_39 : decode cX2_init 39 = .ok (.putfield 33, 3) := by decide +kernel
theorem dX2_init_42 : decode cX2_init 42 = .ok (.aload_n 0, 1) := by decide +kernel
theorem dX2_init_43 : decode cX2_init 43 = .ok (.new 36, 3) := by decide +kernel
theorem dX2_init_46 : decode cX2_init 46 = .ok (.dup, 1) := by decide +kernel
theorem dX2_init_47 : decode cX2_init 47 = .ok (.iload_n 3, 1) := by decide +kernel
theorem dX2_init_48 : decode cX2_init 48 = .ok (.invokespecial 38, 3) := by decide +kernel
theorem dX2_init_51 : decode cX2_init 51 = .ok (.putfield 41, 3) := by decide +kernel
theorem dX2_init_54 : decode cX2_init 54 = .ok (.aload_n 0, 1) := by decide +kernel
theorem dX2_init_55 : decode cX2_init 55 = .ok (.new 45, 3) := by decide +kernel
theorem dX2_init_58 : decode cX2_init 58 = .ok (.dup, 1) := by decide +kernel
theorem dX2_init_59 : decode cX2_init 59 = .ok (.iload_n 3, 1) := by decide +kernel
theorem dX2_init_60 : decode cX2_init 60 = .ok (.invokespecial 47, 3) := by decide +kernel
theorem dX2_init_63 : decode cX2_init 63 = .ok (.putfield 48, 3) := by decide +kernel
theorem dX2_init_66 : decode cX2_init 66 = .ok (.return_, 1) := by decide +kernel
theorem dX2_isPublished_0 : decode cX2_isPublished 0 = .ok (.aload_n 0, 1) := by decide +kernel
theorem dX2_isPublished_1 : decode cX2_isPublished 1 = .ok (.getfield 15, 3) := by decide +kernel
theorem dX2_isPublished_4 : decode cX2_isPublished 4 = .ok (.ifnull 7, 3) := by decide +kernel
theorem dX2_isPublished_7 : decode cX2_isPublished 7 = .ok (.iconst 1, 1) := by decide +kernel
theorem dX2_isPublished_8 : decode cX2_isPublished 8 = .ok (.goto 4, 3) := by decide +kernel
theorem dX2_isPublished_11 : decode cX2_isPublished 11 = .ok (.iconst 0, 1) := by decide +kernel
theorem dX2_isPublished_12 : decode cX2_isPublished 12 = .ok (.ireturn, 1) := by decide +kernel
theorem dX2_hasNoLines_0 : decode cX2_hasNoLines 0 = .ok (.aload_n 0, 1) := by decide +kernel
theorem dX2_hasNoLines_1 : decode cX2_hasNoLines 1 = .ok (.getfield 41, 3) := by decide +kernel
theorem dX2_hasNoLines_4 : decode cX2_hasNoLines 4 = .ok (.getfield 52, 3) := by decide +kernel
theorem dX2_hasNoLines_7 : decode cX2_hasNoLines 7 = .ok (.ifCond .ne 7, 3) := by decide +kernel
theorem dX2_hasNoLines_10 : decode cX2_hasNoLines 10 = .ok (.iconst 1, 1) := by decide +kernel
theorem dX2_hasNoLines_11 : decode cX2_hasNoLines 11 = .ok (.goto 4, 3) := by decide +kernel
theorem dX2_hasNoLines_14 : decode cX2_hasNoLines 14 = .ok (.iconst 0, 1) := by decide +kernel
theorem dX2_hasNoLines_15 : decode cX2_hasNoLines 15 = .ok (.ireturn, 1) := by decide +kernel
theorem dX2_takesLine_0 : decode cX2_takesLine 0 = .ok (.aload_n 0, 1) := by decide +kernel
theorem dX2_takesLine_1 : decode cX2_takesLine 1 = .ok (.getfield 41, 3) := by decide +kernel
theorem dX2_takesLine_4 : decode cX2_takesLine 4 = .ok (.getfield 52, 3) := by decide +kernel
theorem dX2_takesLine_7 : decode cX2_takesLine 7 = .ok (.bipush 6, 2) := by decide +kernel
theorem dX2_takesLine_9 : decode cX2_takesLine 9 = .ok (.if_icmp .ge 21, 3) := by decide +kernel
theorem dX2_takesLine_12 : decode cX2_takesLine 12 = .ok (.aload_n 0, 1) := by decide +kernel
theorem dX2_takesLine_13 : decode cX2_takesLine 13 = .ok (.getfield 48, 3) := by decide +kernel
theorem dX2_takesLine_16 : decode cX2_takesLine 16 = .ok (.getfield 55, 3) := by decide +kernel
theorem dX2_takesLine_19 : decode cX2_takesLine 19 = .ok (.iload_n 1, 1) := by decide +kernel
theorem dX2_takesLine_20 : decode cX2_takesLine 20 = .ok (.iadd, 1) := by decide +kernel
theorem dX2_takesLine_21 : decode cX2_takesLine 21 = .ok (.bipush 40, 2) := by decide +kernel
theorem dX2_takesLine_23 : decode cX2_takesLine 23 = .ok (.if_icmp .gt 7, 3) := by decide +kernel
theorem dX2_takesLine_26 : decode cX2_takesLine 26 = .ok (.iconst 1, 1) := by decide +kernel
theorem dX2_takesLine_27 : decode cX2_takesLine 27 = .ok (.goto 4, 3) := by decide +kernel
theorem dX2_takesLine_30 : decode cX2_takesLine 30 = .ok (.iconst 0, 1) := by decide +kernel
theorem dX2_takesLine_31 : decode cX2_takesLine 31 = .ok (.ireturn, 1) := by decide +kernel
set_option maxRecDepth 20000 in
theorem ggX2_addLine_X3_append : GoodIn wsX2_addLine wsX3_append := goodIn_r _ [7, 8, 9, 10, 11, 12, 48, 49, 50, 51, 52, 53] (by decide +kernel) (by decide +kernel)
set_option maxRecDepth 20000 in
theorem gX2_addLine_X3_append : GoodIn wsX2_addLine (wsV RX2 58 RX3 yX3_append wsX3_append) := goodIn_app (goodIn_of _ (by decide +kernel)) ggX2_addLine_X3_append
set_option maxRecDepth 20000 in
theorem ggX2_addLine_X0_drawLine : GoodIn wsX2_addLine wsX0_drawLine := goodIn_r _ [17, 18, 19, 20, 21, 22, 23, 16, 24, 25, 26, 27, 28, 29, 30, 31, 32, 33, 34, 35, 36, 37, 38, 54, 55, 56, 57] (by decide +kernel) (by decide +kernel)
set_option maxRecDepth 20000 in
theorem gX2_addLine_X0_drawLine : GoodIn wsX2_addLine (wsV RX2 62 RX0 yX0_drawLine wsX0_drawLine) := goodIn_app (goodIn_of _ (by decide +kernel)) ggX2_addLine_X0_drawLine
theorem dX2_addLine_0 : decode cX2_addLine 0 = .ok (.aload_n 0, 1) := by decide +kernel
theorem dX2_addLine_1 : decode cX2_addLine 1 = .ok (.getfield 41, 3) := by decide +kernel
theorem dX2_addLine_4 : decode cX2_addLine 4 = .ok (.iload_n 1, 1) := by decide +kernel
theorem dX2_addLine_5 : decode cX2_addLine 5 = .ok (.iload_n 2, 1) := by decide +kernel
theorem dX2_addLine_6 : decode cX2_addLine 6 = .ok (.iload_n 3, 1) := by decide +kernel
theorem dX2_addLine_7 : decode cX2_addLine 7 = .ok (.iload 4, 2) := by decide +kernel
theorem dX2_addLine_9 : decode cX2_addLine 9 = .ok (.invokevirtual 58, 3) := by decide +kernel
theorem dX2_addLine_12 : decode cX2_addLine 12 = .ok (.aload_n 0, 1) := by decide +kernel
theorem dX2_addLine_13 : decode cX2_addLine 13 = .ok (.getfield 48, 3) := by decide +kernel
theorem dX2_addLine_16 : decode cX2_addLine 16 = .ok (.iload_n 1, 1) := by decide +kernel
theorem dX2_addLine_17 : decode cX2_addLine 17 = .ok (.iload_n 2, 1) := by decide +kernel
theorem dX2_addLine_18 : decode cX2_addLine 18 = .ok (.iload_n 3, 1) := by decide +kernel
theorem dX2_addLine_19 : decode cX2_addLine 19 = .ok (.iload 4, 2) := by decide +kernel
theorem dX2_addLine_21 : decode cX2_addLine 21 = .ok (.invokevirtual 62, 3) := by decide +kernel
theorem dX2_addLine_24 : decode cX2_addLine 24 = .ok (.return_, 1) := by decide +kernel
set_option maxRecDepth 20000 in
theorem ggX2_addLinesFor_X3_timesFor : GoodIn wsX2_addLinesFor wsX3_timesFor := goodIn_r _ [5, 6, 7, 8, 9, 10, 11, 12, 13, 51, 52, 53, 54, 55, 56] (by decide +kernel) (by decide +kernel)
set_option maxRecDepth 20000 in
theorem gX2_addLinesFor_X3_timesFor : GoodIn wsX2_addLinesFor (wsV RX2 75 RX3 yX3_timesFor wsX3_timesFor) := goodIn_app (goodIn_of _ (by decide +kernel)) ggX2_addLinesFor_X3_timesFor
set_option maxRecDepth 20000 in
theorem ggX2_addLinesFor_X2_addLine : GoodIn wsX2_addLinesFor wsX2_addLine := goodIn_r _ [18, 19, 20, 21, 22, 23, 4, 24, 25, 26, 27, 28, 6, 29, 30, 31, 32, 33, 34, 35, 36, 37, 38, 39, 40, 41, 42, 12, 43, 44, 45, 46, 47, 8, 9, 10, 48, 49, 50, 57, 58, 59, 60, 61, 62, 63, 64, 65, 51, 52, 53, 54, 55, 56, 66, 67, 68, 69] (by decide +kernel) (by decide +kernel)
set_option maxRecDepth 20000 in
theorem gX2_addLinesFor_X2_addLine : GoodIn wsX2_addLinesFor (wsV RX2 79 RX2 yX2_addLine wsX2_addLine) := goodIn_app (goodIn_of _ (by decide +kernel)) ggX2_addLinesFor_X2_addLine
theorem dX2_addLinesFor_0 : decode cX2_addLinesFor 0 = .ok (.iconst 0, 1) := by decide +kernel
theorem dX2_addLinesFor_1 : decode cX2_addLinesFor 1 = .ok (.istore_n 3, 1) := by decide +kernel
theorem dX2_addLinesFor_2 : decode cX2_addLinesFor 2 = .ok (.iload_n 3, 1) := by decide +kernel
theorem dX2_addLinesFor_3 : decode cX2_addLinesFor 3 = .ok (.aload_n 2, 1) := by decide +kernel
theorem dX2_addLinesFor_4 : decode cX2_addLinesFor 4 = .ok (.getfield 52, 3) := by decide +kernel
theorem dX2_addLinesFor_7 : decode cX2_addLinesFor 7 = .ok (.if_icmp .ge 37, 3) := by decide +kernel
theorem dX2_addLinesFor_10 : decode cX2_addLinesFor 10 = .ok (.aload_n 0, 1) := by decide +kernel
theorem dX2_addLinesFor_11 : decode cX2_addLinesFor 11 = .ok (.aload_n 2, 1) := by decide +kernel
theorem dX2_addLinesFor_12 : decode cX2_addLinesFor 12 = .ok (.getfield 65, 3) := by decide +kernel
theorem dX2_addLinesFor_15 : decode cX2_addLinesFor 15 = .ok (.iload_n 3, 1) := by decide +kernel
theorem dX2_addLinesFor_16 : decode cX2_addLinesFor 16 = .ok (.iaload, 1) := by decide +kernel
theorem dX2_addLinesFor_17 : decode cX2_addLinesFor 17 = .ok (.aload_n 2, 1) := by decide +kernel
theorem dX2_addLinesFor_18 : decode cX2_addLinesFor 18 = .ok (.getfield 69, 3) := by decide +kernel
theorem dX2_addLinesFor_21 : decode cX2_addLinesFor 21 = .ok (.iload_n 3, 1) := by decide +kernel
theorem dX2_addLinesFor_22 : decode cX2_addLinesFor 22 = .ok (.iaload, 1) := by decide +kernel
theorem dX2_addLinesFor_23 : decode cX2_addLinesFor 23 = .ok (.aload_n 2, 1) := by decide +kernel
theorem dX2_addLinesFor_24 : decode cX2_addLinesFor 24 = .ok (.getfield 72, 3) := by decide +kernel
theorem dX2_addLinesFor_27 : decode cX2_addLinesFor 27 = .ok (.iload_n 3, 1) := by decide +kernel
theorem dX2_addLinesFor_28 : decode cX2_addLinesFor 28 = .ok (.iaload, 1) := by decide +kernel
theorem dX2_addLinesFor_29 : decode cX2_addLinesFor 29 = .ok (.aload_n 2, 1) := by decide +kernel
theorem dX2_addLinesFor_30 : decode cX2_addLinesFor 30 = .ok (.iload_n 1, 1) := by decide +kernel
theorem dX2_addLinesFor_31 : decode cX2_addLinesFor 31 = .ok (.iload_n 3, 1) := by decide +kernel
theorem dX2_addLinesFor_32 : decode cX2_addLinesFor 32 = .ok (.invokevirtual 75, 3) := by decide +kernel
theorem dX2_addLinesFor_35 : decode cX2_addLinesFor 35 = .ok (.invokevirtual 79, 3) := by decide +kernel
theorem dX2_addLinesFor_38 : decode cX2_addLinesFor 38 = .ok (.iinc 3 1, 3) := by decide +kernel
theorem dX2_addLinesFor_41 : decode cX2_addLinesFor 41 = .ok (.goto (-39), 3) := by decide +kernel
theorem dX2_addLinesFor_44 : decode cX2_addLinesFor 44 = .ok (.return_, 1) := by decide +kernel
theorem dX2_mayBeKnittedBy_0 : decode cX2_mayBeKnittedBy 0 = .ok (.iload_n 1, 1) := by decide +kernel
theorem dX2_mayBeKnittedBy_1 : decode cX2_mayBeKnittedBy 1 = .ok (.aload_n 0, 1) := by decide +kernel
theorem dX2_mayBeKnittedBy_2 : decode cX2_mayBeKnittedBy 2 = .ok (.getfield 30, 3) := by decide +kernel
theorem dX2_mayBeKnittedBy_5 : decode cX2_mayBeKnittedBy 5 = .ok (.if_icmp .eq 12, 3) := by decide +kernel
theorem dX2_mayBeKnittedBy_8 : decode cX2_mayBeKnittedBy 8 = .ok (.aload_n 0, 1) := by decide +kernel
theorem dX2_mayBeKnittedBy_9 : decode cX2_mayBeKnittedBy 9 = .ok (.getfield 9, 3) := by decide +kernel
theorem dX2_mayBeKnittedBy_12 : decode cX2_mayBeKnittedBy 12 = .ok (.iload_n 1, 1) := by decide +kernel
theorem dX2_mayBeKnittedBy_13 : decode cX2_mayBeKnittedBy 13 = .ok (.baload, 1) := by decide +kernel
theorem dX2_mayBeKnittedBy_14 : decode cX2_mayBeKnittedBy 14 = .ok (.ifCond .eq 7, 3) := by decide +kernel
theorem dX2_mayBeKnittedBy_17 : decode cX2_mayBeKnittedBy 17 = .ok (.iconst 1, 1) := by decide +kernel
theorem dX2_mayBeKnittedBy_18 : decode cX2_mayBeKnittedBy 18 = .ok (.goto 4, 3) := by decide +kernel
theorem dX2_mayBeKnittedBy_21 : decode cX2_mayBeKnittedBy 21 = .ok (.iconst 0, 1) := by decide +kernel
theorem dX2_mayBeKnittedBy_22 : decode cX2_mayBeKnittedBy 22 = .ok (.ireturn, 1) := by decide +kernel
theorem dX3_init_0 : decode cX3_init 0 = .ok (.aload_n 0, 1) := by decide +kernel
theorem dX3_init_1 : decode cX3_init 1 = .ok (.invokespecial 3, 3) := by decide +kernel
theorem dX3_init_4 : decode cX3_init 4 = .ok (.aload_n 0, 1) := by decide +kernel
theorem dX3_init_5 : decode cX3_init 5 = .ok (.bipush 6, 2) := by decide +kernel
theorem dX3_init_7 : decode cX3_init 7 = .ok (.newarray .int, 2) := by decide +kernel
theorem dX3_init_9 : decode cX3_init 9 = .ok (.putfield 9, 3) := by decide +kernel
theorem dX3_init_12 : decode cX3_init 12 = .ok (.aload_n 0, 1) := by decide +kernel
theorem dX3_init_13 : decode cX3_init 13 = .ok (.bipush 6, 2) := by decide +kernel
theorem dX3_init_15 : decode cX3_init 15 = .ok (.newarray .int, 2) := by decide +kernel
theorem dX3_init_17 : decode cX3_init 17 = .ok (.putfield 15, 3) := by decide +kernel
theorem dX3_init_20 : decode cX3_init 20 = .ok (.aload_n 0, 1) := by decide +kernel
theorem dX3_init_21 : decode cX3_init 21 = .ok (.bipush 6, 2) := by decide +kernel
theorem dX3_init_23 : decode cX3_init 23 = .ok (.newarray .int, 2) := by decide +kernel
theorem dX3_init_25 : decode cX3_init 25 = .ok (.putfield 18, 3) := by decide +kernel
theorem dX3_init_28 : decode cX3_init 28 = .ok (.aload_n 0, 1) := by decide +kernel
theorem dX3_init_29 : decode cX3_init 29 = .ok (.bipush 6, 2) := by decide +kernel
theorem dX3_init_31 : decode cX3_init 31 = .ok (.newarray .int, 2) := by decide +kernel
theorem dX3_init_33 : decode cX3_init 33 = .ok (.putfield 21, 3) := by decide +kernel
theorem dX3_init_36 : decode cX3_init 36 = .ok (.aload_n 0, 1) := by decide +kernel
theorem dX3_init_37 : decode cX3_init 37 = .ok (.iconst 0, 1) := by decide +kernel
theorem dX3_init_38 : decode cX3_init 38 = .ok (.putfield 24, 3) := by decide +kernel
theorem dX3_init_41 : decode cX3_init 41 = .ok (.aload_n 0, 1) := by decide +kernel
theorem dX3_init_42 : decode cX3_init 42 = .ok (.iload_n 1, 1) := by decide +kernel
theorem dX3_init_43 : decode cX3_init 43 = .ok (.putfield 28, 3) := by decide +kernel
theorem dX3_init_46 : decode cX3_init 46 = .ok (.return_, 1) := by decide +kernel
theorem dX3_append_0 : decode cX3_append 0 = .ok (.aload_n 0, 1) := by decide +kernel
theorem dX3_append_1 : decode cX3_append 1 = .ok (.getfield 24, 3) := by decide +kernel
theorem dX3_append_4 : decode cX3_append 4 = .ok (.bipush 6, 2) := by decide +kernel
theorem dX3_append_6 : decode cX3_append 6 = .ok (.if_icmp .ge 54, 3) := by decide +kernel
theorem dX3_append_9 : decode cX3_append 9 = .ok (.aload_n 0, 1) := by decide +kernel
theorem dX3_append_10 : decode cX3_append 10 = .ok (.getfield 9, 3) := by decide +kernel
theorem dX3_append_13 : decode cX3_append 13 = .ok (.aload_n 0, 1) := by decide +kernel
theorem dX3_append_14 : decode cX3_append 14 = .ok (.getfield 24, 3) := by decide +kernel
theorem dX3_append_17 : decode cX3_append 17 = .ok (.iload_n 1, 1) := by decide +kernel
theorem dX3_append_18 : decode cX3_append 18 = .ok (.iastore, 1) := by decide +kernel
theorem dX3_append_19 : decode cX3_append 19 = .ok (.aload_n 0, 1) := by decide +kernel
theorem dX3_append_20 : decode cX3_append 20 = .ok (.getfield 15, 3) := by decide +kernel
theorem dX3_append_23 : decode cX3_append 23 = .ok (.aload_n 0, 1) := by decide +kernel
theorem dX3_append_24 : decode cX3_append 24 = .ok (.getfield 24, 3) := by decide +kernel
theorem dX3_append_27 : decode cX3_append 27 = .ok (.iload_n 2, 1) := by decide +kernel
theorem dX3_append_28 : decode cX3_append 28 = .ok (.iastore, 1) := by decide +kernel
theorem dX3_append_29 : decode cX3_append 29 = .ok (.aload_n 0, 1) := by decide +kernel
theorem dX3_append_30 : decode cX3_append 30 = .ok (.getfield 18, 3) := by decide +kernel
theorem dX3_append_33 : decode cX3_append 33 = .ok (.aload_n 0, 1) := by decide +kernel
theorem dX3_append_34 : decode cX3_append 34 = .ok (.getfield 24, 3) := by decide +kernel
theorem dX3_append_37 : decode cX3_append 37 = .ok (.iload_n 3, 1) := by decide +kernel
theorem dX3_append_38 : decode cX3_append 38 = .ok (.iastore, 1) := by decide +kernel
theorem dX3_append_39 : decode cX3_append 39 = .ok (.aload_n 0, 1) := by decide +kernel
theorem dX3_append_40 : decode cX3_append 40 = .ok (.getfield 21, 3) := by decide +kernel
theorem dX3_append_43 : decode cX3_append 43 = .ok (.aload_n 0, 1) := by decide +kernel
theorem dX3_append_44 : decode cX3_append 44 = .ok (.getfield 24, 3) := by decide +kernel
theorem dX3_append_47 : decode cX3_append 47 = .ok (.iload 4, 2) := by decide +kernel
theorem dX3_append_49 : decode cX3_append 49 = .ok (.iastore, 1) := by decide +kernel
theorem dX3_append_50 : decode cX3_append 50 = .ok (.aload_n 0, 1) := by decide +kernel
theorem dX3_append_51 : decode cX3_append 51 = .ok (.dup, 1) := by decide +kernel
theorem dX3_append_52 : decode cX3_append 52 = .ok (.getfield 24, 3) := by decide +kernel
theorem dX3_append_55 : decode cX3_append 55 = .ok (.iconst 1, 1) := by decide +kernel
theorem dX3_append_56 : decode cX3_append 56 = .ok (.iadd, 1) := by decide +kernel
theorem dX3_append_57 : decode cX3_append 57 = .ok (.putfield 24, 3) := by decide +kernel
theorem dX3_append_60 : decode cX3_append 60 = .ok (.return_, 1) := by decide +kernel
set_option maxRecDepth 20000 in
theorem ggX3_timesFor_X5_forGauge : GoodIn wsX3_timesFor wsX5_forGauge := goodIn_r _ [8] (by decide +kernel) (by decide +kernel)
set_option maxRecDepth 20000 in
theorem gX3_timesFor_X5_forGauge_n31 : GoodIn wsX3_timesFor (wsX5_forGauge) := ggX3_timesFor_X5_forGauge
theorem dX3_timesFor_0 : decode cX3_timesFor 0 = .ok (.iconst 1, 1) := by decide +kernel
theorem dX3_timesFor_1 : decode cX3_timesFor 1 = .ok (.aload_n 0, 1) := by decide +kernel
theorem dX3_timesFor_2 : decode cX3_timesFor 2 = .ok (.getfield 21, 3) := by decide +kernel
theorem dX3_timesFor_5 : decode cX3_timesFor 5 = .ok (.iload_n 2, 1) := by decide +kernel
theorem dX3_timesFor_6 : decode cX3_timesFor 6 = .ok (.iaload, 1) := by decide +kernel
theorem dX3_timesFor_7 : decode cX3_timesFor 7 = .ok (.iload_n 1, 1) := by decide +kernel
theorem dX3_timesFor_8 : decode cX3_timesFor 8 = .ok (.invokestatic 31, 3) := by decide +kernel
theorem dX3_timesFor_11 : decode cX3_timesFor 11 = .ok (.invokestatic 35, 3) := by decide +kernel
theorem dX3_timesFor_14 : decode cX3_timesFor 14 = .ok (.ireturn, 1) := by decide +kernel
set_option maxRecDepth 20000 in
theorem ggX3_rowsFor_X3_timesFor : GoodIn wsX3_rowsFor wsX3_timesFor := goodIn_r _ [6, 7, 8, 9, 10, 11, 12, 13, 14, 15, 16, 17, 18, 19, 20] (by decide +kernel) (by decide +kernel)
set_option maxRecDepth 20000 in
theorem gX3_rowsFor_X3_timesFor : GoodIn wsX3_rowsFor (wsV RX3 40 RX3 yX3_timesFor wsX3_timesFor) := goodIn_app (goodIn_of _ (by decide +kernel)) ggX3_rowsFor_X3_timesFor
theorem dX3_rowsFor_0 : decode cX3_rowsFor 0 = .ok (.iconst 0, 1) := by decide +kernel
theorem dX3_rowsFor_1 : decode cX3_rowsFor 1 = .ok (.istore_n 2, 1) := by decide +kernel
theorem dX3_rowsFor_2 : decode cX3_rowsFor 2 = .ok (.iconst 0, 1) := by decide +kernel
theorem dX3_rowsFor_3 : decode cX3_rowsFor 3 = .ok (.istore_n 3, 1) := by decide +kernel
theorem dX3_rowsFor_4 : decode cX3_rowsFor 4 = .ok (.iload_n 3, 1) := by decide +kernel
theorem dX3_rowsFor_5 : decode cX3_rowsFor 5 = .ok (.aload_n 0, 1) := by decide +kernel
theorem dX3_rowsFor_6 : decode cX3_rowsFor 6 = .ok (.getfield 24, 3) := by decide +kernel
theorem dX3_rowsFor_9 : decode cX3_rowsFor 9 = .ok (.if_icmp .ge 18, 3) := by decide +kernel
theorem dX3_rowsFor_12 : decode cX3_rowsFor 12 = .ok (.iload_n 2, 1) := by decide +kernel
theorem dX3_rowsFor_13 : decode cX3_rowsFor 13 = .ok (.aload_n 0, 1) := by decide +kernel
theorem dX3_rowsFor_14 : decode cX3_rowsFor 14 = .ok (.iload_n 1, 1) := by decide +kernel
theorem dX3_rowsFor_15 : decode cX3_rowsFor 15 = .ok (.iload_n 3, 1) := by decide +kernel
theorem dX3_rowsFor_16 : decode cX3_rowsFor 16 = .ok (.invokevirtual 40, 3) := by decide +kernel
theorem dX3_rowsFor_19 : decode cX3_rowsFor 19 = .ok (.iadd, 1) := by decide +kernel
theorem dX3_rowsFor_20 : decode cX3_rowsFor 20 = .ok (.istore_n 2, 1) := by decide +kernel
theorem dX3_rowsFor_21 : decode cX3_rowsFor 21 = .ok (.iinc 3 1, 3) := by decide +kernel
theorem dX3_rowsFor_24 : decode cX3_rowsFor 24 = .ok (.goto (-20), 3) := by decide +kernel
theorem dX3_rowsFor_27 : decode cX3_rowsFor 27 = .ok (.iload_n 2, 1) := by decide +kernel
theorem dX3_rowsFor_28 : decode cX3_rowsFor 28 = .ok (.ireturn, 1) := by decide +kernel
set_option maxRecDepth 20000 in
theorem ggX3_workTo_X3_workAlong : GoodIn wsX3_workTo wsX3_workAlong := goodIn_r _ [9, 10, 11, 25, 26, 27, 28, 29, 30] (by decide +kernel) (by decide +kernel)
set_option maxRecDepth 20000 in
theorem gX3_workTo_X3_workAlong : GoodIn wsX3_workTo (wsV RX3 43 RX3 yX3_workAlong wsX3_workAlong) := goodIn_app (goodIn_of _ (by decide +kernel)) ggX3_workTo_X3_workAlong
set_option maxRecDepth 20000 in
theorem ggX3_workTo_X5_widthAfter : GoodIn wsX3_workTo wsX5_widthAfter := goodIn_r _ [14, 15, 16, 13, 17, 18, 19, 20, 21, 22, 23, 24] (by decide +kernel) (by decide +kernel)
set_option maxRecDepth 20000 in
theorem gX3_workTo_X5_widthAfter_n46 : GoodIn wsX3_workTo (wsX5_widthAfter) := ggX3_workTo_X5_widthAfter
theorem dX3_workTo_0 : decode cX3_workTo 0 = .ok (.aload_n 0, 1) := by decide +kernel
theorem dX3_workTo_1 : decode cX3_workTo 1 = .ok (.getfield 28, 3) := by decide +kernel
theorem dX3_workTo_4 : decode cX3_workTo 4 = .ok (.istore_n 3, 1) := by decide +kernel
theorem dX3_workTo_5 : decode cX3_workTo 5 = .ok (.iconst 0, 1) := by decide +kernel
theorem dX3_workTo_6 : decode cX3_workTo 6 = .ok (.istore 4, 2) := by decide +kernel
theorem dX3_workTo_8 : decode cX3_workTo 8 = .ok (.iconst 0, 1) := by decide +kernel
theorem dX3_workTo_9 : decode cX3_workTo 9 = .ok (.istore 5, 2) := by decide +kernel
theorem dX3_workTo_11 : decode cX3_workTo 11 = .ok (.iload 5, 2) := by decide +kernel
theorem dX3_workTo_13 : decode cX3_workTo 13 = .ok (.aload_n 0, 1) := by decide +kernel
theorem dX3_workTo_14 : decode cX3_workTo 14 = .ok (.getfield 24, 3) := by decide +kernel
theorem dX3_workTo_17 : decode cX3_workTo 17 = .ok (.if_icmp .ge 68, 3) := by decide +kernel
theorem dX3_workTo_20 : decode cX3_workTo 20 = .ok (.iconst 0, 1) := by decide +kernel
theorem dX3_workTo_21 : decode cX3_workTo 21 = .ok (.istore 6, 2) := by decide +kernel
theorem dX3_workTo_23 : decode cX3_workTo 23 = .ok (.iload 6, 2) := by decide +kernel
theorem dX3_workTo_25 : decode cX3_workTo 25 = .ok (.aload_n 0, 1) := by decide +kernel
theorem dX3_workTo_26 : decode cX3_workTo 26 = .ok (.getfield 21, 3) := by decide +kernel
theorem dX3_workTo_29 : decode cX3_workTo 29 = .ok (.iload 5, 2) := by decide +kernel
theorem dX3_workTo_31 : decode cX3_workTo 31 = .ok (.iaload, 1) := by decide +kernel
theorem dX3_workTo_32 : decode cX3_workTo 32 = .ok (.if_icmp .ge 47, 3) := by decide +kernel
theorem dX3_workTo_35 : decode cX3_workTo 35 = .ok (.iload 4, 2) := by decide +kernel
theorem dX3_workTo_37 : decode cX3_workTo 37 = .ok (.iload_n 1, 1) := by decide +kernel
theorem dX3_workTo_38 : decode cX3_workTo 38 = .ok (.if_icmp .ne 20, 3) := by decide +kernel
theorem dX3_workTo_41 : decode cX3_workTo 41 = .ok (.iload_n 2, 1) := by decide +kernel
theorem dX3_workTo_42 : decode cX3_workTo 42 = .ok (.iload_n 3, 1) := by decide +kernel
theorem dX3_workTo_43 : decode cX3_workTo 43 = .ok (.if_icmp .ge 13, 3) := by decide +kernel
theorem dX3_workTo_46 : decode cX3_workTo 46 = .ok (.aload_n 0, 1) := by decide +kernel
theorem dX3_workTo_47 : decode cX3_workTo 47 = .ok (.iload 5, 2) := by decide +kernel
theorem dX3_workTo_49 : decode cX3_workTo 49 = .ok (.iload_n 2, 1) := by decide +kernel
theorem dX3_workTo_50 : decode cX3_workTo 50 = .ok (.invokevirtual 43, 3) := by decide +kernel
theorem dX3_workTo_53 : decode cX3_workTo 53 = .ok (.goto 4, 3) := by decide +kernel
theorem dX3_workTo_56 : decode cX3_workTo 56 = .ok (.iconst 0, 1) := by decide +kernel
theorem dX3_workTo_57 : decode cX3_workTo 57 = .ok (.ireturn, 1) := by decide +kernel
theorem dX3_workTo_58 : decode cX3_workTo 58 = .ok (.iload_n 3, 1) := by decide +kernel
theorem dX3_workTo_59 : decode cX3_workTo 59 = .ok (.aload_n 0, 1) := by decide +kernel
theorem dX3_workTo_60 : decode cX3_workTo 60 = .ok (.getfield 18, 3) := by decide +kernel
theorem dX3_workTo_63 : decode cX3_workTo 63 = .ok (.iload 5, 2) := by decide +kernel
theorem dX3_workTo_65 : decode cX3_workTo 65 = .ok (.iaload, 1) := by decide +kernel
theorem dX3_workTo_66 : decode cX3_workTo 66 = .ok (.invokestatic 46, 3) := by decide +kernel
theorem dX3_workTo_69 : decode cX3_workTo 69 = .ok (.istore_n 3, 1) := by decide +kernel
theorem dX3_workTo_70 : decode cX3_workTo 70 = .ok (.iinc 4 1, 3) := by decide +kernel
theorem dX3_workTo_73 : decode cX3_workTo 73 = .ok (.iinc 6 1, 3) := by decide +kernel
theorem dX3_workTo_76 : decode cX3_workTo 76 = .ok (.goto (-53), 3) := by decide +kernel
theorem dX3_workTo_79 : decode cX3_workTo 79 = .ok (.iinc 5 1, 3) := by decide +kernel
theorem dX3_workTo_82 : decode cX3_workTo 82 = .ok (.goto (-71), 3) := by decide +kernel
theorem dX3_workTo_85 : decode cX3_workTo 85 = .ok (.iconst 0, 1) := by decide +kernel
theorem dX3_workTo_86 : decode cX3_workTo 86 = .ok (.ireturn, 1) := by decide +kernel
theorem dX3_workAlong_0 : decode cX3_workAlong 0 = .ok (.aload_n 0, 1) := by decide +kernel
theorem dX3_workAlong_1 : decode cX3_workAlong 1 = .ok (.getfield 9, 3) := by decide +kernel
theorem dX3_workAlong_4 : decode cX3_workAlong 4 = .ok (.iload_n 1, 1) := by decide +kernel
theorem dX3_workAlong_5 : decode cX3_workAlong 5 = .ok (.iaload, 1) := by decide +kernel
theorem dX3_workAlong_6 : decode cX3_workAlong 6 = .ok (.aload_n 0, 1) := by decide +kernel
theorem dX3_workAlong_7 : decode cX3_workAlong 7 = .ok (.getfield 15, 3) := by decide +kernel
theorem dX3_workAlong_10 : decode cX3_workAlong 10 = .ok (.iload_n 1, 1) := by decide +kernel
theorem dX3_workAlong_11 : decode cX3_workAlong 11 = .ok (.iaload, 1) := by decide +kernel
theorem dX3_workAlong_12 : decode cX3_workAlong 12 = .ok (.iadd, 1) := by decide +kernel
theorem dX3_workAlong_13 : decode cX3_workAlong 13 = .ok (.iconst 1, 1) := by decide +kernel
theorem dX3_workAlong_14 : decode cX3_workAlong 14 = .ok (.isub, 1) := by decide +kernel
theorem dX3_workAlong_15 : decode cX3_workAlong 15 = .ok (.istore_n 3, 1) := by decide +kernel
theorem dX3_workAlong_16 : decode cX3_workAlong 16 = .ok (.iconst 0, 1) := by decide +kernel
theorem dX3_workAlong_17 : decode cX3_workAlong 17 = .ok (.istore 4, 2) := by decide +kernel
theorem dX3_workAlong_19 : decode cX3_workAlong 19 = .ok (.iconst 0, 1) := by decide +kernel
theorem dX3_workAlong_20 : decode cX3_workAlong 20 = .ok (.istore 5, 2) := by decide +kernel
theorem dX3_workAlong_22 : decode cX3_workAlong 22 = .ok (.iload 5, 2) := by decide +kernel
theorem dX3_workAlong_24 : decode cX3_workAlong 24 = .ok (.iload_n 2, 1) := by decide +kernel
theorem dX3_workAlong_25 : decode cX3_workAlong 25 = .ok (.if_icmp .ge 25, 3) := by decide +kernel
theorem dX3_workAlong_28 : decode cX3_workAlong 28 = .ok (.iload 4, 2) := by decide +kernel
theorem dX3_workAlong_30 : decode cX3_workAlong 30 = .ok (.iload_n 3, 1) := by decide +kernel
theorem dX3_workAlong_31 : decode cX3_workAlong 31 = .ok (.if_icmp .ge 10, 3) := by decide +kernel
theorem dX3_workAlong_34 : decode cX3_workAlong 34 = .ok (.iload 4, 2) := by decide +kernel
theorem dX3_workAlong_36 : decode cX3_workAlong 36 = .ok (.iconst 1, 1) := by decide +kernel
theorem dX3_workAlong_37 : decode cX3_workAlong 37 = .ok (.iadd, 1) := by decide +kernel
theorem dX3_workAlong_38 : decode cX3_workAlong 38 = .ok (.goto 4, 3) := by decide +kernel
theorem dX3_workAlong_41 : decode cX3_workAlong 41 = .ok (.iconst 0, 1) := by decide +kernel
theorem dX3_workAlong_42 : decode cX3_workAlong 42 = .ok (.istore 4, 2) := by decide +kernel
theorem dX3_workAlong_44 : decode cX3_workAlong 44 = .ok (.iinc 5 1, 3) := by decide +kernel
theorem dX3_workAlong_47 : decode cX3_workAlong 47 = .ok (.goto (-25), 3) := by decide +kernel
theorem dX3_workAlong_50 : decode cX3_workAlong 50 = .ok (.iload 4, 2) := by decide +kernel
theorem dX3_workAlong_52 : decode cX3_workAlong 52 = .ok (.aload_n 0, 1) := by decide +kernel
theorem dX3_workAlong_53 : decode cX3_workAlong 53 = .ok (.getfield 9, 3) := by decide +kernel
theorem dX3_workAlong_56 : decode cX3_workAlong 56 = .ok (.iload_n 1, 1) := by decide +kernel
theorem dX3_workAlong_57 : decode cX3_workAlong 57 = .ok (.iaload, 1) := by decide +kernel
theorem dX3_workAlong_58 : decode cX3_workAlong 58 = .ok (.if_icmp .ge 7, 3) := by decide +kernel
theorem dX3_workAlong_61 : decode cX3_workAlong 61 = .ok (.iconst 1, 1) := by decide +kernel
theorem dX3_workAlong_62 : decode cX3_workAlong 62 = .ok (.goto 4, 3) := by decide +kernel
theorem dX3_workAlong_65 : decode cX3_workAlong 65 = .ok (.iconst 2, 1) := by decide +kernel
theorem dX3_workAlong_66 : decode cX3_workAlong 66 = .ok (.ireturn, 1) := by decide +kernel
theorem dX4_init_0 : decode cX4_init 0 = .ok (.aload_n 0, 1) := by decide +kernel
theorem dX4_init_1 : decode cX4_init 1 = .ok (.invokespecial 1, 3) := by decide +kernel
theorem dX4_init_4 : decode cX4_init 4 = .ok (.aload_n 0, 1) := by decide +kernel
theorem dX4_init_5 : decode cX4_init 5 = .ok (.iconst 0, 1) := by decide +kernel
theorem dX4_init_6 : decode cX4_init 6 = .ok (.putfield 7, 3) := by decide +kernel
theorem dX4_init_9 : decode cX4_init 9 = .ok (.aload_n 0, 1) := by decide +kernel
theorem dX4_init_10 : decode cX4_init 10 = .ok (.iload_n 1, 1) := by decide +kernel
theorem dX4_init_11 : decode cX4_init 11 = .ok (.putfield 13, 3) := by decide +kernel
theorem dX4_init_14 : decode cX4_init 14 = .ok (.aload_n 0, 1) := by decide +kernel
theorem dX4_init_15 : decode cX4_init 15 = .ok (.aload_n 2, 1) := by decide +kernel
theorem dX4_init_16 : decode cX4_init 16 = .ok (.putfield 16, 3) := by decide +kernel
theorem dX4_init_19 : decode cX4_init 19 = .ok (.aload_n 0, 1) := by decide +kernel
theorem dX4_init_20 : decode cX4_init 20 = .ok (.aload_n 3, 1) := by decide +kernel
theorem dX4_init_21 : decode cX4_init 21 = .ok (.putfield 20, 3) := by decide +kernel
theorem dX4_init_24 : decode cX4_init 24 = .ok (.return_, 1) := by decide +kernel
set_option maxRecDepth 20000 in
theorem ggX4_knitUpTo_X4_canKnitRow : GoodIn wsX4_knitUpTo wsX4_canKnitRow := goodIn_r _ [8, 3, 9, 10, 11, 1, 12, 13, 2, 14, 15, 16, 7, 17, 18, 19, 20, 21, 22, 23, 24, 25, 26, 27, 28, 33, 34, 35, 36, 37, 38, 39, 40, 41, 42, 43, 44, 45, 29, 30, 31, 32] (by decide +kernel) (by decide +kernel)
set_option maxRecDepth 20000 in
theorem gX4_knitUpTo_X4_canKnitRow : GoodIn wsX4_knitUpTo (wsV RX4 24 RX4 yX4_canKnitRow wsX4_canKnitRow) := goodIn_app (goodIn_of _ (by decide +kernel)) ggX4_knitUpTo_X4_canKnitRow
set_option maxRecDepth 20000 in
theorem ggX4_knitUpTo_X4_yarnOfNextRow : GoodIn wsX4_knitUpTo wsX4_yarnOfNextRow := goodIn_r _ [17, 1, 18, 9, 10, 3, 19, 20, 21, 22, 23, 24, 25, 26, 27, 28, 29, 30, 31, 32, 33, 34, 35, 36, 37, 38, 39, 40, 41, 42, 43, 44, 45] (by decide +kernel) (by decide +kernel)
set_option maxRecDepth 20000 in
theorem gX4_knitUpTo_X4_yarnOfNextRow : GoodIn wsX4_knitUpTo (wsV RX4 33 RX4 yX4_yarnOfNextRow wsX4_yarnOfNextRow) := goodIn_app (goodIn_of _ (by decide +kernel)) ggX4_knitUpTo_X4_yarnOfNextRow
theorem dX4_knitUpTo_0 : decode cX4_knitUpTo 0 = .ok (.iconst 0, 1) := by decide +kernel
theorem dX4_knitUpTo_1 : decode cX4_knitUpTo 1 = .ok (.istore_n 2, 1) := by decide +kernel
theorem dX4_knitUpTo_2 : decode cX4_knitUpTo 2 = .ok (.iload_n 2, 1) := by decide +kernel
theorem dX4_knitUpTo_3 : decode cX4_knitUpTo 3 = .ok (.iload_n 1, 1) := by decide +kernel
theorem dX4_knitUpTo_4 : decode cX4_knitUpTo 4 = .ok (.if_icmp .ge 42, 3) := by decide +kernel
theorem dX4_knitUpTo_7 : decode cX4_knitUpTo 7 = .ok (.aload_n 0, 1) := by decide +kernel
theorem dX4_knitUpTo_8 : decode cX4_knitUpTo 8 = .ok (.invokevirtual 24, 3) := by decide +kernel
theorem dX4_knitUpTo_11 : decode cX4_knitUpTo 11 = .ok (.ifCond .eq 35, 3) := by decide +kernel
theorem dX4_knitUpTo_14 : decode cX4_knitUpTo 14 = .ok (.aload_n 0, 1) := by decide +kernel
theorem dX4_knitUpTo_15 : decode cX4_knitUpTo 15 = .ok (.getfield 20, 3) := by decide +kernel
theorem dX4_knitUpTo_18 : decode cX4_knitUpTo 18 = .ok (.dup, 1) := by decide +kernel
theorem dX4_knitUpTo_19 : decode cX4_knitUpTo 19 = .ok (.getfield 28, 3) := by decide +kernel
theorem dX4_knitUpTo_22 : decode cX4_knitUpTo 22 = .ok (.aload_n 0, 1) := by decide +kernel
theorem dX4_knitUpTo_23 : decode cX4_knitUpTo 23 = .ok (.invokevirtual 33, 3) := by decide +kernel
theorem dX4_knitUpTo_26 : decode cX4_knitUpTo 26 = .ok (.isub, 1) := by decide +kernel
theorem dX4_knitUpTo_27 : decode cX4_knitUpTo 27 = .ok (.putfield 28, 3) := by decide +kernel
theorem dX4_knitUpTo_30 : decode cX4_knitUpTo 30 = .ok (.aload_n 0, 1) := by decide +kernel
theorem dX4_knitUpTo_31 : decode cX4_knitUpTo 31 = .ok (.dup, 1) := by decide +kernel
theorem dX4_knitUpTo_32 : decode cX4_knitUpTo 32 = .ok (.getfield 7, 3) := by decide +kernel
theorem dX4_knitUpTo_35 : decode cX4_knitUpTo 35 = .ok (.iconst 1, 1) := by decide +kernel
theorem dX4_knitUpTo_36 : decode cX4_knitUpTo 36 = .ok (.iadd, 1) := by decide +kernel
theorem dX4_knitUpTo_37 : decode cX4_knitUpTo 37 = .ok (.putfield 7, 3) := by decide +kernel
theorem dX4_knitUpTo_40 : decode cX4_knitUpTo 40 = .ok (.iinc 2 1, 3) := by decide +kernel
theorem dX4_knitUpTo_43 : decode cX4_knitUpTo 43 = .ok (.goto (-41), 3) := by decide +kernel
theorem dX4_knitUpTo_46 : decode cX4_knitUpTo 46 = .ok (.iload_n 2, 1) := by decide +kernel
theorem dX4_knitUpTo_47 : decode cX4_knitUpTo 47 = .ok (.ireturn, 1) := by decide +kernel
set_option maxRecDepth 20000 in
theorem ggX4_canKnitRow_X4_yarnOfNextRow : GoodIn wsX4_canKnitRow wsX4_yarnOfNextRow := goodIn_r _ [13, 5, 14, 2, 3, 1, 15, 16, 17, 18, 19, 20, 21, 22, 23, 24, 38, 39, 40, 41, 25, 26, 27, 28, 29, 30, 31, 32, 33, 34, 35, 36, 37] (by decide +kernel) (by decide +kernel)
set_option maxRecDepth 20000 in
theorem gX4_canKnitRow_X4_yarnOfNextRow : GoodIn wsX4_canKnitRow (wsV RX4 33 RX4 yX4_yarnOfNextRow wsX4_yarnOfNextRow) := goodIn_app (goodIn_of _ (by decide +kernel)) ggX4_canKnitRow_X4_yarnOfNextRow
theorem dX4_canKnitRow_0 : decode cX4_canKnitRow 0 = .ok (.aload_n 0, 1) := by decide +kernel
theorem dX4_canKnitRow_1 : decode cX4_canKnitRow 1 = .ok (.getfield 7, 3) := by decide +kernel
theorem dX4_canKnitRow_4 : decode cX4_canKnitRow 4 = .ok (.aload_n 0, 1) := by decide +kernel
theorem dX4_canKnitRow_5 : decode cX4_canKnitRow 5 = .ok (.getfield 16, 3) := by decide +kernel
theorem dX4_canKnitRow_8 : decode cX4_canKnitRow 8 = .ok (.getfield 37, 3) := by decide +kernel
theorem dX4_canKnitRow_11 : decode cX4_canKnitRow 11 = .ok (.getfield 43, 3) := by decide +kernel
theorem dX4_canKnitRow_14 : decode cX4_canKnitRow 14 = .ok (.if_icmp .ge 35, 3) := by decide +kernel
theorem dX4_canKnitRow_17 : decode cX4_canKnitRow 17 = .ok (.aload_n 0, 1) := by decide +kernel
theorem dX4_canKnitRow_18 : decode cX4_canKnitRow 18 = .ok (.getfield 20, 3) := by decide +kernel
theorem dX4_canKnitRow_21 : decode cX4_canKnitRow 21 = .ok (.getfield 48, 3) := by decide +kernel
theorem dX4_canKnitRow_24 : decode cX4_canKnitRow 24 = .ok (.aload_n 0, 1) := by decide +kernel
theorem dX4_canKnitRow_25 : decode cX4_canKnitRow 25 = .ok (.getfield 13, 3) := by decide +kernel
theorem dX4_canKnitRow_28 : decode cX4_canKnitRow 28 = .ok (.if_icmp .ne 21, 3) := by decide +kernel
theorem dX4_canKnitRow_31 : decode cX4_canKnitRow 31 = .ok (.aload_n 0, 1) := by decide +kernel
theorem dX4_canKnitRow_32 : decode cX4_canKnitRow 32 = .ok (.getfield 20, 3) := by decide +kernel
theorem dX4_canKnitRow_35 : decode cX4_canKnitRow 35 = .ok (.getfield 28, 3) := by decide +kernel
theorem dX4_canKnitRow_38 : decode cX4_canKnitRow 38 = .ok (.aload_n 0, 1) := by decide +kernel
theorem dX4_canKnitRow_39 : decode cX4_canKnitRow 39 = .ok (.invokevirtual 33, 3) := by decide +kernel
theorem dX4_canKnitRow_42 : decode cX4_canKnitRow 42 = .ok (.if_icmp .lt 7, 3) := by decide +kernel
theorem dX4_canKnitRow_45 : decode cX4_canKnitRow 45 = .ok (.iconst 1, 1) := by decide +kernel
theorem dX4_canKnitRow_46 : decode cX4_canKnitRow 46 = .ok (.goto 4, 3) := by decide +kernel
theorem dX4_canKnitRow_49 : decode cX4_canKnitRow 49 = .ok (.iconst 0, 1) := by decide +kernel
theorem dX4_canKnitRow_50 : decode cX4_canKnitRow 50 = .ok (.ireturn, 1) := by decide +kernel
set_option maxRecDepth 20000 in
theorem ggX4_yarnOfNextRow_X0_yarnOf : GoodIn wsX4_yarnOfNextRow wsX0_yarnOf := goodIn_r _ [10, 11, 29, 30, 31, 32] (by decide +kernel) (by decide +kernel)
set_option maxRecDepth 20000 in
theorem gX4_yarnOfNextRow_X0_yarnOf : GoodIn wsX4_yarnOfNextRow (wsV RX4 52 RX0 yX0_yarnOf wsX0_yarnOf) := goodIn_app (goodIn_of _ (by decide +kernel)) ggX4_yarnOfNextRow_X0_yarnOf
theorem dX4_yarnOfNextRow_0 : decode cX4_yarnOfNextRow 0 = .ok (.aload_n 0, 1) := by decide +kernel
theorem dX4_yarnOfNextRow_1 : decode cX4_yarnOfNextRow 1 = .ok (.getfield 20, 3) := by decide +kernel
theorem dX4_yarnOfNextRow_4 : decode cX4_yarnOfNextRow 4 = .ok (.getfield 49, 3) := by decide +kernel
theorem dX4_yarnOfNextRow_7 : decode cX4_yarnOfNextRow 7 = .ok (.aload_n 0, 1) := by decide +kernel
theorem dX4_yarnOfNextRow_8 : decode cX4_yarnOfNextRow 8 = .ok (.getfield 16, 3) := by decide +kernel
theorem dX4_yarnOfNextRow_11 : decode cX4_yarnOfNextRow 11 = .ok (.getfield 37, 3) := by decide +kernel
theorem dX4_yarnOfNextRow_14 : decode cX4_yarnOfNextRow 14 = .ok (.aload_n 0, 1) := by decide +kernel
theorem dX4_yarnOfNextRow_15 : decode cX4_yarnOfNextRow 15 = .ok (.getfield 7, 3) := by decide +kernel
theorem dX4_yarnOfNextRow_18 : decode cX4_yarnOfNextRow 18 = .ok (.invokevirtual 52, 3) := by decide +kernel
theorem dX4_yarnOfNextRow_21 : decode cX4_yarnOfNextRow 21 = .ok (.imul, 1) := by decide +kernel
theorem dX4_yarnOfNextRow_22 : decode cX4_yarnOfNextRow 22 = .ok (.ireturn, 1) := by decide +kernel
set_option maxRecDepth 20000 in
theorem ggX5_init_Jx4a65c_init_da8c8 : GoodIn wsX5_init wsJx4a65c_init_da8c8 := goodIn_r _ [15, 16, 17, 18, 19, 20, 21, 22, 23, 24, 25, 26, 27, 2, 3, 28, 29, 30] (by decide +kernel) (by decide +kernel)
set_option maxRecDepth 20000 in
theorem gX5_init_Jx4a65c_init_da8c8 : GoodIn wsX5_init (wsJx4a65c_init_da8c8) := ggX5_init_Jx4a65c_init_da8c8
theorem dX5_init_0 : decode cX5_init 0 = .ok (.aload_n 0, 1) := by decide +kernel
theorem dX5_init_1 : decode cX5_init 1 = .ok (.invokespecial 1, 3) := by decide +kernel
theorem dX5_init_4 : decode cX5_init 4 = .ok (.aload_n 0, 1) := by decide +kernel
theorem dX5_init_5 : decode cX5_init 5 = .ok (.new 7, 3) := by decide +kernel
theorem dX5_init_8 : decode cX5_init 8 = .ok (.dup, 1) := by decide +kernel
theorem dX5_init_9 : decode cX5_init 9 = .ok (.invokespecial 9, 3) := by decide +kernel
theorem dX5_init_12 : decode cX5_init 12 = .ok (.putfield 10, 3) := by decide +kernel
theorem dX5_init_15 : decode cX5_init 15 = .ok (.aload_n 0, 1) := by decide +kernel
theorem dX5_init_16 : decode cX5_init 16 = .ok (.new 7, 3) := by decide +kernel
theorem dX5_init_19 : decode cX5_init 19 = .ok (.dup, 1) := by decide +kernel
theorem dX5_init_20 : decode cX5_init 20 = .ok (.invokespecial 9, 3) := by decide +kernel
theorem dX5_init_23 : decode cX5_init 23 = .ok (.putfield 16, 3) := by decide +kernel
theorem dX5_init_26 : decode cX5_init 26 = .ok (.aload_n 0, 1) := by decide +kernel
theorem dX5_init_27 : decode cX5_init 27 = .ok (.new 7, 3) := by decide +kernel
theorem dX5_init_30 : decode cX5_init 30 = .ok (.dup, 1) := by decide +kernel
theorem dX5_init_31 : decode cX5_init 31 = .ok (.invokespecial 9, 3) := by decide +kernel
theorem dX5_init_34 : decode cX5_init 34 = .ok (.putfield 19, 3) := by decide +kernel
theorem dX5_init_37 : decode cX5_init 37 = .ok (.aload_n 0, 1) := by decide +kernel
theorem dX5_init_38 : decode cX5_init 38 = .ok (.new 7, 3) := by decide +kernel
theorem dX5_init_41 : decode cX5_init 41 = .ok (.dup, 1) := by decide +kernel
theorem dX5_init_42 : decode cX5_init 42 = .ok (.invokespecial 9, 3) := by decide +kernel
theorem dX5_init_45 : decode cX5_init 45 = .ok (.putfield 22, 3) := by decide +kernel
theorem dX5_init_48 : decode cX5_init 48 = .ok (.aload_n 0, 1) := by decide +kernel
theorem dX5_init_49 : decode cX5_init 49 = .ok (.iconst 5, 1) := by decide +kernel
theorem dX5_init_50 : decode cX5_init 50 = .ok (.newarray .int, 2) := by decide +kernel
theorem dX5_init_52 : decode cX5_init 52 = .ok (.putfield 25, 3) := by decide +kernel
theorem dX5_init_55 : decode cX5_init 55 = .ok (.return_, 1) := by decide +kernel
set_option maxRecDepth 20000 in
theorem ggX5_begin_X5_checkPerson : GoodIn wsX5_begin wsX5_checkPerson := goodIn_ca (goodIn_r _ [5, 6, 7] (by decide +kernel) (by decide +kernel)) (goodIn_sub (fun _ h => List.mem_cons_of_mem _ (List.mem_append_left _ (List.mem_append_left _ (List.mem_append_right _ h)))) (by decide +kernel))
set_option maxRecDepth 20000 in
theorem gX5_begin_X5_checkPerson : GoodIn wsX5_begin (va_wsS RX5 29 yX5_checkPerson wsX5_checkPerson) := goodIn_app (goodIn_of _ (by decide +kernel)) ggX5_begin_X5_checkPerson
set_option maxRecDepth 20000 in
theorem ggX5_begin_X5_checkRange : GoodIn wsX5_begin wsX5_checkRange := goodIn_ca (goodIn_r _ [10, 11, 12] (by decide +kernel) (by decide +kernel)) (goodIn_sub (fun _ h => List.mem_cons_of_mem _ (List.mem_append_left _ (List.mem_append_right _ h))) (by decide +kernel))
set_option maxRecDepth 20000 in
theorem gX5_begin_X5_checkRange : GoodIn wsX5_begin (va_wsS RX5 33 yX5_checkRange wsX5_checkRange) := goodIn_app (goodIn_of _ (by decide +kernel)) ggX5_begin_X5_checkRange
set_option maxRecDepth 20000 in
theorem ggX5_begin_X5_checkRoomForPattern : GoodIn wsX5_begin wsX5_checkRoomForPattern := goodIn_ca (goodIn_r _ [16, 17, 18, 19, 20, 21, 22, 23, 24, 25, 137, 138, 139, 140, 141, 142, 143, 144] (by decide +kernel) (by decide +kernel)) (goodIn_sub (fun _ h => List.mem_cons_of_mem _ (List.mem_append_right _ h)) (by decide +kernel))
set_option maxRecDepth 20000 in
theorem gX5_begin_X5_checkRoomForPattern : GoodIn wsX5_begin (wsV RX5 37 RX5 yX5_checkRoomForPattern wsX5_checkRoomForPattern) := goodIn_app (goodIn_of _ (by decide +kernel)) ggX5_begin_X5_checkRoomForPattern
set_option maxRecDepth 20000 in
theorem ggX5_begin_X5_addPattern : GoodIn wsX5_begin wsX5_addPattern := goodIn_r _ [29, 30, 31, 32, 19, 20, 21, 22, 23, 24, 25, 33, 34, 35, 36, 37, 38, 39, 40, 41, 42, 43, 44, 45, 46, 47, 48, 49, 50, 51, 52, 53, 54, 55, 56, 57, 58, 59, 60, 61, 62, 63, 64, 65, 66, 67, 68, 69, 70, 71, 72, 73, 74, 75, 76, 77, 78, 79, 80, 81, 82, 83, 84, 85, 86, 87, 88, 89, 90, 91, 92, 93, 94, 95, 96, 97, 98, 99, 100, 101, 102, 103, 104, 105, 106, 107, 108, 109, 110, 111, 112, 113, 114, 115, 116, 117, 118, 119, 120, 121, 122, 123, 124, 125, 126, 127, 128, 129, 130, 131, 132, 133, 134, 135, 136, 137, 138, 139, 140, 141, 142, 143, 144, 145, 146, 147, 148, 149, 150, 151, 152, 153, 154] (by decide +kernel) (by decide +kernel)
set_option maxRecDepth 20000 in
theorem gX5_begin_X5_addPattern : GoodIn wsX5_begin (wsV RX5 40 RX5 yX5_addPattern wsX5_addPattern) := goodIn_app (goodIn_of _ (by decide +kernel)) ggX5_begin_X5_addPattern
theorem dX5_begin_0 : decode cX5_begin 0 = .ok (.iload_n 1, 1) := by decide +kernel
theorem dX5_begin_1 : decode cX5_begin 1 = .ok (.invokestatic 29, 3) := by decide +kernel
theorem dX5_begin_4 : decode cX5_begin 4 = .ok (.iload_n 2, 1) := by decide +kernel
theorem dX5_begin_5 : decode cX5_begin 5 = .ok (.iconst 1, 1) := by decide +kernel
theorem dX5_begin_6 : decode cX5_begin 6 = .ok (.bipush 20, 2) := by decide +kernel
theorem dX5_begin_8 : decode cX5_begin 8 = .ok (.invokestatic 33, 3) := by decide +kernel
theorem dX5_begin_11 : decode cX5_begin 11 = .ok (.iload_n 3, 1) := by decide +kernel
theorem dX5_begin_12 : decode cX5_begin 12 = .ok (.iconst 0, 1) := by decide +kernel
theorem dX5_begin_13 : decode cX5_begin 13 = .ok (.sipush 1000, 3) := by decide +kernel
theorem dX5_begin_16 : decode cX5_begin 16 = .ok (.invokestatic 33, 3) := by decide +kernel
theorem dX5_begin_19 : decode cX5_begin 19 = .ok (.aload_n 0, 1) := by decide +kernel
theorem dX5_begin_20 : decode cX5_begin 20 = .ok (.invokevirtual 37, 3) := by decide +kernel
theorem dX5_begin_23 : decode cX5_begin 23 = .ok (.aload_n 0, 1) := by decide +kernel
theorem dX5_begin_24 : decode cX5_begin 24 = .ok (.iload_n 1, 1) := by decide +kernel
theorem dX5_begin_25 : decode cX5_begin 25 = .ok (.iload_n 2, 1) := by decide +kernel
theorem dX5_begin_26 : decode cX5_begin 26 = .ok (.iload_n 3, 1) := by decide +kernel
theorem dX5_begin_27 : decode cX5_begin 27 = .ok (.invokevirtual 40, 3) := by decide +kernel
theorem dX5_begin_30 : decode cX5_begin 30 = .ok (.getfield 44, 3) := by decide +kernel
theorem dX5_begin_33 : decode cX5_begin 33 = .ok (.ireturn, 1) := by decide +kernel
set_option maxRecDepth 20000 in
theorem ggX5_line_X5_patternAt : GoodIn wsX5_line wsX5_patternAt := goodIn_ca (goodIn_r _ [11, 12, 13, 14, 15, 16, 17, 18, 19, 20, 21, 22, 23, 24, 25, 26, 27, 28, 29, 30, 31, 32, 33, 34, 35, 36, 37, 38, 107, 108, 109, 110, 111, 112, 113, 114] (by decide +kernel) (by decide +kernel)) (goodIn_sub (fun _ h => List.mem_cons_of_mem _ (List.mem_append_right _ h)) (by decide +kernel))
set_option maxRecDepth 20000 in
theorem gX5_line_X5_patternAt : GoodIn wsX5_line (wsV RX5 50 RX5 yX5_patternAt wsX5_patternAt) := goodIn_app (goodIn_of _ (by decide +kernel)) ggX5_line_X5_patternAt
set_option maxRecDepth 20000 in
theorem ggX5_line_X5_checkRange : GoodIn wsX5_line wsX5_checkRange := goodIn_ca (goodIn_r _ [41, 1, 2] (by decide +kernel) (by decide +kernel)) (goodIn_sub (fun _ h => List.mem_cons_of_mem _ (List.mem_append_left _ (List.mem_append_left _ (List.mem_append_right _ h)))) (by decide +kernel))
set_option maxRecDepth 20000 in
theorem gX5_line_X5_checkRange : GoodIn wsX5_line (va_wsS RX5 33 yX5_checkRange wsX5_checkRange) := goodIn_app (goodIn_of _ (by decide +kernel)) ggX5_line_X5_checkRange
set_option maxRecDepth 20000 in
theorem ggX5_line_X2_isPublished : GoodIn wsX5_line wsX2_isPublished := goodIn_r _ [46, 47, 94, 95, 96, 97, 98, 99, 100, 101, 102] (by decide +kernel) (by decide +kernel)
set_option maxRecDepth 20000 in
theorem gX5_line_X2_isPublished : GoodIn wsX5_line (wsV RX5 61 RX2 yX2_isPublished wsX2_isPublished) := goodIn_app (goodIn_of _ (by decide +kernel)) ggX5_line_X2_isPublished
set_option maxRecDepth 20000 in
theorem ggX5_line_X2_takesLine : GoodIn wsX5_line wsX2_takesLine := goodIn_r _ [51, 52, 53, 54, 94, 95, 96, 97, 98, 99, 100, 101, 102, 115, 116, 117, 118, 119, 120, 103, 104, 105, 106] (by decide +kernel) (by decide +kernel)
set_option maxRecDepth 20000 in
theorem gX5_line_X2_takesLine : GoodIn wsX5_line (wsV RX5 65 RX2 yX2_takesLine wsX2_takesLine) := goodIn_app (goodIn_of _ (by decide +kernel)) ggX5_line_X2_takesLine
set_option maxRecDepth 20000 in
theorem ggX5_line_X2_addLine : GoodIn wsX5_line wsX2_addLine := goodIn_r _ [58, 52, 53, 59, 60, 61, 62, 63, 64, 65, 66, 67, 68, 69, 70, 71, 72, 73, 74, 75, 76, 77, 78, 79, 80, 81, 82, 10, 83, 84, 85, 86, 87, 88, 89, 90, 91, 92, 93, 94, 95, 96, 97, 98, 99, 100, 101, 102, 115, 116, 117, 118, 119, 120, 103, 104, 105, 106] (by decide +kernel) (by decide +kernel)
set_option maxRecDepth 20000 in
theorem gX5_line_X2_addLine : GoodIn wsX5_line (wsV RX5 74 RX2 yX2_addLine wsX2_addLine) := goodIn_app (goodIn_of _ (by decide +kernel)) ggX5_line_X2_addLine
theorem dX5_line_0 : decode cX5_line 0 = .ok (.aload_n 0, 1) := by decide +kernel
theorem dX5_line_1 : decode cX5_line 1 = .ok (.iload_n 1, 1) := by decide +kernel
theorem dX5_line_2 : decode cX5_line 2 = .ok (.invokevirtual 50, 3) := by decide +kernel
theorem dX5_line_5 : decode cX5_line 5 = .ok (.astore 6, 2) := by decide +kernel
theorem dX5_line_7 : decode cX5_line 7 = .ok (.iload_n 2, 1) := by decide +kernel
theorem dX5_line_8 : decode cX5_line 8 = .ok (.iconst 0, 1) := by decide +kernel
theorem dX5_line_9 : decode cX5_line 9 = .ok (.bipush 9, 2) := by decide +kernel
theorem dX5_line_11 : decode cX5_line 11 = .ok (.invokestatic 33, 3) := by decide +kernel
theorem dX5_line_14 : decode cX5_line 14 = .ok (.iload_n 3, 1) := by decide +kernel
theorem dX5_line_15 : decode cX5_line 15 = .ok (.iconst 0, 1) := by decide +kernel
theorem dX5_line_16 : decode cX5_line 16 = .ok (.bipush 9, 2) := by decide +kernel
theorem dX5_line_18 : decode cX5_line 18 = .ok (.invokestatic 33, 3) := by decide +kernel
theorem dX5_line_21 : decode cX5_line 21 = .ok (.iload 4, 2) := by decide +kernel
theorem dX5_line_23 : decode cX5_line 23 = .ok (.bipush (-3), 2) := by decide +kernel
theorem dX5_line_25 : decode cX5_line 25 = .ok (.iconst 3, 1) := by decide +kernel
theorem dX5_line_26 : decode cX5_line 26 = .ok (.invokestatic 33, 3) := by decide +kernel
theorem dX5_line_29 : decode cX5_line 29 = .ok (.iload 5, 2) := by decide +kernel
theorem dX5_line_31 : decode cX5_line 31 = .ok (.iconst 1, 1) := by decide +kernel
theorem dX5_line_32 : decode cX5_line 32 = .ok (.bipush 20, 2) := by decide +kernel
theorem dX5_line_34 : decode cX5_line 34 = .ok (.invokestatic 33, 3) := by decide +kernel
theorem dX5_line_37 : decode cX5_line 37 = .ok (.iload_n 2, 1) := by decide +kernel
theorem dX5_line_38 : decode cX5_line 38 = .ok (.ifCond .ne 17, 3) := by decide +kernel
theorem dX5_line_41 : decode cX5_line 41 = .ok (.iload_n 3, 1) := by decide +kernel
theorem dX5_line_42 : decode cX5_line 42 = .ok (.ifCond .ne 13, 3) := by decide +kernel
theorem dX5_line_45 : decode cX5_line 45 = .ok (.new 54, 3) := by decide +kernel
theorem dX5_line_48 : decode cX5_line 48 = .ok (.dup, 1) := by decide +kernel
theorem dX5_line_49 : decode cX5_line 49 = .ok (.ldc 56, 2) := by decide +kernel
theorem dX5_line_51 : decode cX5_line 51 = .ok (.invokespecial 58, 3) := by decide +kernel
theorem dX5_line_54 : decode cX5_line 54 = .ok (.athrow, 1) := by decide +kernel
theorem dX5_line_55 : decode cX5_line 55 = .ok (.aload 6, 2) := by decide +kernel
theorem dX5_line_57 : decode cX5_line 57 = .ok (.invokevirtual 61, 3) := by decide +kernel
theorem dX5_line_60 : decode cX5_line 60 = .ok (.ifCond .ne 13, 3) := by decide +kernel
theorem dX5_line_63 : decode cX5_line 63 = .ok (.aload 6, 2) := by decide +kernel
theorem dX5_line_65 : decode cX5_line 65 = .ok (.iload 5, 2) := by decide +kernel
theorem dX5_line_67 : decode cX5_line 67 = .ok (.invokevirtual 65, 3) := by decide +kernel
theorem dX5_line_70 : decode cX5_line 70 = .ok (.ifCond .ne 13, 3) := by decide +kernel
theorem dX5_line_73 : decode cX5_line 73 = .ok (.new 69, 3) := by decide +kernel
theorem dX5_line_76 : decode cX5_line 76 = .ok (.dup, 1) := by decide +kernel
theorem dX5_line_77 : decode cX5_line 77 = .ok (.ldc 71, 2) := by decide +kernel
theorem dX5_line_79 : decode cX5_line 79 = .ok (.invokespecial 73, 3) := by decide +kernel
theorem dX5_line_82 : decode cX5_line 82 = .ok (.athrow, 1) := by decide +kernel
theorem dX5_line_83 : decode cX5_line 83 = .ok (.aload 6, 2) := by decide +kernel
theorem dX5_line_85 : decode cX5_line 85 = .ok (.iload_n 2, 1) := by decide +kernel
theorem dX5_line_86 : decode cX5_line 86 = .ok (.iload_n 3, 1) := by decide +kernel
theorem dX5_line_87 : decode cX5_line 87 = .ok (.iload 4, 2) := by decide +kernel
theorem dX5_line_89 : decode cX5_line 89 = .ok (.iload 5, 2) := by decide +kernel
theorem dX5_line_91 : decode cX5_line 91 = .ok (.invokevirtual 74, 3) := by decide +kernel
theorem dX5_line_94 : decode cX5_line 94 = .ok (.aload 6, 2) := by decide +kernel
theorem dX5_line_96 : decode cX5_line 96 = .ok (.getfield 78, 3) := by decide +kernel
theorem dX5_line_99 : decode cX5_line 99 = .ok (.getfield 82, 3) := by decide +kernel
theorem dX5_line_102 : decode cX5_line 102 = .ok (.ireturn, 1) := by decide +kernel
set_option maxRecDepth 20000 in
theorem ggX5_anew_X5_patternAt : GoodIn wsX5_anew wsX5_patternAt := goodIn_ca (goodIn_r _ [12, 13, 14, 15, 16, 17, 18, 19, 20, 21, 22, 23, 24, 25, 26, 27, 28, 29, 30, 31, 32, 33, 34, 35, 36, 37, 38, 39, 212, 213, 214, 215, 216, 217, 218, 219] (by decide +kernel) (by decide +kernel)) (goodIn_sub (fun _ h => List.mem_cons_of_mem _ (List.mem_append_left _ (List.mem_append_right _ h))) (by decide +kernel))
set_option maxRecDepth 20000 in
theorem gX5_anew_X5_patternAt : GoodIn wsX5_anew (wsV RX5 50 RX5 yX5_patternAt wsX5_patternAt) := goodIn_app (goodIn_of _ (by decide +kernel)) ggX5_anew_X5_patternAt
set_option maxRecDepth 20000 in
theorem ggX5_anew_X5_checkGauge : GoodIn wsX5_anew wsX5_checkGauge := goodIn_ca (goodIn_r _ [42, 43, 44, 11, 45, 46, 47] (by decide +kernel) (by decide +kernel)) (goodIn_sub (fun _ h => List.mem_cons_of_mem _ (List.mem_append_right _ h)) (by decide +kernel))
set_option maxRecDepth 20000 in
theorem gX5_anew_X5_checkGauge : GoodIn wsX5_anew (va_wsS RX5 87 yX5_checkGauge wsX5_checkGauge) := goodIn_app (goodIn_of _ (by decide +kernel)) ggX5_anew_X5_checkGauge
set_option maxRecDepth 20000 in
theorem ggX5_anew_X2_hasNoLines : GoodIn wsX5_anew wsX2_hasNoLines := goodIn_r _ [52, 53, 197, 198, 199, 200, 201, 202, 203, 204, 205, 206, 207, 208, 209, 210, 211] (by decide +kernel) (by decide +kernel)
set_option maxRecDepth 20000 in
theorem gX5_anew_X2_hasNoLines : GoodIn wsX5_anew (wsV RX5 90 RX2 yX2_hasNoLines wsX2_hasNoLines) := goodIn_app (goodIn_of _ (by decide +kernel)) ggX5_anew_X2_hasNoLines
set_option maxRecDepth 20000 in
theorem ggX5_anew_X3_rowsFor : GoodIn wsX5_anew wsX3_rowsFor := goodIn_r _ [58, 59, 60, 61, 62, 57, 63, 64, 65, 66, 67, 68, 69, 11, 70, 206, 207, 208, 209, 210, 211] (by decide +kernel) (by decide +kernel)
set_option maxRecDepth 20000 in
theorem gX5_anew_X3_rowsFor : GoodIn wsX5_anew (wsV RX5 97 RX3 yX3_rowsFor wsX3_rowsFor) := goodIn_app (goodIn_of _ (by decide +kernel)) ggX5_anew_X3_rowsFor
set_option maxRecDepth 20000 in
theorem ggX5_anew_X5_checkRoomForPattern : GoodIn wsX5_anew wsX5_checkRoomForPattern := goodIn_ca (goodIn_r _ [74, 1, 2, 15, 17, 18, 19, 20, 21, 22, 212, 213, 214, 215, 216, 217, 218, 219] (by decide +kernel) (by decide +kernel)) (goodIn_sub (fun _ h => List.mem_cons_of_mem _ (List.mem_append_left _ (List.mem_append_left _ (List.mem_append_right _ h)))) (by decide +kernel))
set_option maxRecDepth 20000 in
theorem gX5_anew_X5_checkRoomForPattern : GoodIn wsX5_anew (wsV RX5 37 RX5 yX5_checkRoomForPattern wsX5_checkRoomForPattern) := goodIn_app (goodIn_of _ (by decide +kernel)) ggX5_anew_X5_checkRoomForPattern
set_option maxRecDepth 20000 in
theorem ggX5_anew_X5_forGauge : GoodIn wsX5_anew wsX5_forGauge := goodIn_r _ [70] (by decide +kernel) (by decide +kernel)
set_option maxRecDepth 20000 in
theorem gX5_anew_X5_forGauge : GoodIn wsX5_anew (va_wsS RX5 108 yX5_forGauge wsX5_forGauge) := goodIn_app (goodIn_of _ (by decide +kernel)) ggX5_anew_X5_forGauge
set_option maxRecDepth 20000 in
theorem ggX5_anew_X5_within : GoodIn wsX5_anew wsX5_within := goodIn_r _ [78, 79, 66, 67, 68, 80, 81, 82] (by decide +kernel) (by decide +kernel)
set_option maxRecDepth 20000 in
theorem gX5_anew_X5_within : GoodIn wsX5_anew (va_wsS RX5 112 yX5_within wsX5_within) := goodIn_app (goodIn_of _ (by decide +kernel)) ggX5_anew_X5_within
set_option maxRecDepth 20000 in
theorem ggX5_anew_X5_addPattern : GoodIn wsX5_anew wsX5_addPattern := goodIn_r _ [86, 87, 88, 51, 15, 17, 18, 19, 20, 21, 22, 89, 90, 91, 92, 93, 94, 95, 96, 97, 98, 99, 100, 101, 102, 103, 104, 57, 53, 105, 106, 107, 108, 109, 110, 111, 112, 113, 114, 115, 116, 64, 59, 117, 118, 119, 120, 121, 122, 123, 124, 125, 126, 127, 128, 129, 130, 131, 39, 132, 133, 134, 135, 136, 137, 138, 139, 140, 141, 142, 143, 144, 145, 66, 67, 68, 146, 147, 148, 149, 150, 151, 152, 153, 154, 155, 156, 157, 158, 159, 160, 161, 162, 163, 164, 165, 166, 167, 168, 169, 81, 82, 170, 171, 172, 173, 197, 198, 199, 200, 201, 202, 203, 204, 205, 212, 213, 214, 215, 216, 217, 218, 219, 206, 207, 208, 209, 210, 211, 220, 221, 222, 223] (by decide +kernel) (by decide +kernel)
set_option maxRecDepth 20000 in
theorem gX5_anew_X5_addPattern : GoodIn wsX5_anew (wsV RX5 40 RX5 yX5_addPattern wsX5_addPattern) := goodIn_app (goodIn_of _ (by decide +kernel)) ggX5_anew_X5_addPattern
set_option maxRecDepth 20000 in
theorem ggX5_anew_X2_addLinesFor : GoodIn wsX5_anew wsX2_addLinesFor := goodIn_r _ [177, 178, 61, 62, 57, 63, 64, 65, 66, 67, 68, 69, 11, 70, 179, 180, 181, 51, 182, 53, 108, 183, 184, 185, 186, 59, 114, 115, 116, 187, 188, 189, 107, 190, 122, 124, 125, 191, 192, 193, 194, 123, 195, 196, 76, 77, 78, 79, 80, 81, 82, 206, 207, 208, 209, 210, 211, 197, 198, 199, 200, 201, 202, 203, 204, 205, 220, 221, 222, 223] (by decide +kernel) (by decide +kernel)
set_option maxRecDepth 20000 in
theorem gX5_anew_X2_addLinesFor : GoodIn wsX5_anew (wsV RX5 122 RX2 yX2_addLinesFor wsX2_addLinesFor) := goodIn_app (goodIn_of _ (by decide +kernel)) ggX5_anew_X2_addLinesFor
theorem dX5_anew_0 : decode cX5_anew 0 = .ok (.aload_n 0, 1) := by decide +kernel
theorem dX5_anew_1 : decode cX5_anew 1 = .ok (.iload_n 1, 1) := by decide +kernel
theorem dX5_anew_2 : decode cX5_anew 2 = .ok (.invokevirtual 50, 3) := by decide +kernel
theorem dX5_anew_5 : decode cX5_anew 5 = .ok (.astore_n 3, 1) := by decide +kernel
theorem dX5_anew_6 : decode cX5_anew 6 = .ok (.iload_n 2, 1) := by decide +kernel
theorem dX5_anew_7 : decode cX5_anew 7 = .ok (.invokestatic 87, 3) := by decide +kernel
theorem dX5_anew_10 : decode cX5_anew 10 = .ok (.aload_n 3, 1) := by decide +kernel
theorem dX5_anew_11 : decode cX5_anew 11 = .ok (.invokevirtual 90, 3) := by decide +kernel
theorem dX5_anew_14 : decode cX5_anew 14 = .ok (.ifCond .ne 16, 3) := by decide +kernel
theorem dX5_anew_17 : decode cX5_anew 17 = .ok (.aload_n 3, 1) := by decide +kernel
theorem dX5_anew_18 : decode cX5_anew 18 = .ok (.getfield 93, 3) := by decide +kernel
theorem dX5_anew_21 : decode cX5_anew 21 = .ok (.iload_n 2, 1) := by decide +kernel
theorem dX5_anew_22 : decode cX5_anew 22 = .ok (.invokevirtual 97, 3) := by decide +kernel
theorem dX5_anew_25 : decode cX5_anew 25 = .ok (.bipush 40, 2) := by decide +kernel
theorem dX5_anew_27 : decode cX5_anew 27 = .ok (.if_icmp .le 13, 3) := by decide +kernel
theorem dX5_anew_30 : decode cX5_anew 30 = .ok (.new 69, 3) := by decide +kernel
theorem dX5_anew_33 : decode cX5_anew 33 = .ok (.dup, 1) := by decide +kernel
theorem dX5_anew_34 : decode cX5_anew 34 = .ok (.ldc 103, 2) := by decide +kernel
theorem dX5_anew_36 : decode cX5_anew 36 = .ok (.invokespecial 73, 3) := by decide +kernel
theorem dX5_anew_39 : decode cX5_anew 39 = .ok (.athrow, 1) := by decide +kernel
theorem dX5_anew_40 : decode cX5_anew 40 = .ok (.aload_n 0, 1) := by decide +kernel
theorem dX5_anew_41 : decode cX5_anew 41 = .ok (.invokevirtual 37, 3) := by decide +kernel
theorem dX5_anew_44 : decode cX5_anew 44 = .ok (.aload_n 3, 1) := by decide +kernel
theorem dX5_anew_45 : decode cX5_anew 45 = .ok (.getfield 93, 3) := by decide +kernel
theorem dX5_anew_48 : decode cX5_anew 48 = .ok (.getfield 105, 3) := by decide +kernel
theorem dX5_anew_51 : decode cX5_anew 51 = .ok (.iload_n 2, 1) := by decide +kernel
theorem dX5_anew_52 : decode cX5_anew 52 = .ok (.invokestatic 108, 3) := by decide +kernel
theorem dX5_anew_55 : decode cX5_anew 55 = .ok (.iconst 1, 1) := by decide +kernel
theorem dX5_anew_56 : decode cX5_anew 56 = .ok (.bipush 20, 2) := by decide +kernel
theorem dX5_anew_58 : decode cX5_anew 58 = .ok (.invokestatic 112, 3) := by decide +kernel
theorem dX5_anew_61 : decode cX5_anew 61 = .ok (.istore 4, 2) := by decide +kernel
theorem dX5_anew_63 : decode cX5_anew 63 = .ok (.aload_n 0, 1) := by decide +kernel
theorem dX5_anew_64 : decode cX5_anew 64 = .ok (.aload_n 3, 1) := by decide +kernel
theorem dX5_anew_65 : decode cX5_anew 65 = .ok (.getfield 116, 3) := by decide +kernel
theorem dX5_anew_68 : decode cX5_anew 68 = .ok (.iload 4, 2) := by decide +kernel
theorem dX5_anew_70 : decode cX5_anew 70 = .ok (.aload_n 3, 1) := by decide +kernel
theorem dX5_anew_71 : decode cX5_anew 71 = .ok (.getfield 119, 3) := by decide +kernel
theorem dX5_anew_74 : decode cX5_anew 74 = .ok (.invokevirtual 40, 3) := by decide +kernel
theorem dX5_anew_77 : decode cX5_anew 77 = .ok (.astore 5, 2) := by decide +kernel
theorem dX5_anew_79 : decode cX5_anew 79 = .ok (.aload 5, 2) := by decide +kernel
theorem dX5_anew_81 : decode cX5_anew 81 = .ok (.iload_n 2, 1) := by decide +kernel
theorem dX5_anew_82 : decode cX5_anew 82 = .ok (.aload_n 3, 1) := by decide +kernel
theorem dX5_anew_83 : decode cX5_anew 83 = .ok (.getfield 93, 3) := by decide +kernel
theorem dX5_anew_86 : decode cX5_anew 86 = .ok (.invokevirtual 122, 3) := by decide +kernel
theorem dX5_anew_89 : decode cX5_anew 89 = .ok (.aload 5, 2) := by decide +kernel
theorem dX5_anew_91 : decode cX5_anew 91 = .ok (.getfield 44, 3) := by decide +kernel
theorem dX5_anew_94 : decode cX5_anew 94 = .ok (.ireturn, 1) := by decide +kernel
set_option maxRecDepth 20000 in
theorem ggX5_publish_X5_patternAt : GoodIn wsX5_publish wsX5_patternAt := goodIn_ca (goodIn_r _ [10, 11, 12, 13, 14, 15, 16, 17, 18, 19, 20, 21, 22, 23, 24, 25, 26, 27, 28, 29, 30, 31, 32, 33, 34, 35, 36, 37, 123, 124, 125, 126, 127, 128, 129, 130] (by decide +kernel) (by decide +kernel)) (goodIn_sub (fun _ h => List.mem_cons_of_mem _ (List.mem_append_right _ h)) (by decide +kernel))
set_option maxRecDepth 20000 in
theorem gX5_publish_X5_patternAt : GoodIn wsX5_publish (wsV RX5 50 RX5 yX5_patternAt wsX5_patternAt) := goodIn_app (goodIn_of _ (by decide +kernel)) ggX5_publish_X5_patternAt
set_option maxRecDepth 20000 in
theorem ggX5_publish_X2_isPublished : GoodIn wsX5_publish wsX2_isPublished := goodIn_r _ [42, 43, 114, 115, 116, 117, 118, 119, 120, 121, 122] (by decide +kernel) (by decide +kernel)
set_option maxRecDepth 20000 in
theorem gX5_publish_X2_isPublished : GoodIn wsX5_publish (wsV RX5 61 RX2 yX2_isPublished wsX2_isPublished) := goodIn_app (goodIn_of _ (by decide +kernel)) ggX5_publish_X2_isPublished
set_option maxRecDepth 20000 in
theorem ggX5_publish_X2_hasNoLines : GoodIn wsX5_publish wsX2_hasNoLines := goodIn_r _ [47, 48, 114, 115, 116, 117, 118, 119, 120, 121, 122, 131, 132, 133, 134, 135, 136] (by decide +kernel) (by decide +kernel)
set_option maxRecDepth 20000 in
theorem gX5_publish_X2_hasNoLines : GoodIn wsX5_publish (wsV RX5 90 RX2 yX2_hasNoLines wsX2_hasNoLines) := goodIn_app (goodIn_of _ (by decide +kernel)) ggX5_publish_X2_hasNoLines
set_option maxRecDepth 20000 in
theorem ggX5_publish_X5_firstOfSameChart : GoodIn wsX5_publish wsX5_firstOfSameChart := goodIn_r _ [52, 4, 14, 53, 15, 16, 17, 18, 19, 20, 21, 22, 23, 24, 25, 26, 27, 28, 29, 30, 31, 32, 33, 34, 35, 36, 37, 54, 55, 56, 57, 58, 59, 60, 123, 124, 125, 126, 127, 114, 115, 116, 117, 118, 119, 120, 121, 122, 128, 129, 130, 137, 138, 139, 140] (by decide +kernel) (by decide +kernel)
set_option maxRecDepth 20000 in
theorem gX5_publish_X5_firstOfSameChart : GoodIn wsX5_publish (wsV RX5 128 RX5 yX5_firstOfSameChart wsX5_firstOfSameChart) := goodIn_app (goodIn_of _ (by decide +kernel)) ggX5_publish_X5_firstOfSameChart
set_option maxRecDepth 20000 in
theorem ggX5_publish_Jx4a65c_add_9ea2d : GoodIn wsX5_publish wsJx4a65c_add_9ea2d := goodIn_r _ [64, 65, 66, 37, 20, 67, 68, 69, 18, 70, 71, 72, 73, 74, 75, 76, 77, 78, 79, 80, 81, 82, 83, 84, 85, 86, 87, 88, 89, 90, 91, 92, 93, 94, 95, 96, 97, 98, 99, 100, 101, 102, 103, 104, 105, 106, 107, 108, 109, 110, 111, 112, 113, 128, 129, 130] (by decide +kernel) (by decide +kernel)
set_option maxRecDepth 20000 in
theorem gX5_publish_Jx4a65c_add_9ea2d : GoodIn wsX5_publish (wsV RX5 136 RJx4a65c yJx4a65c_add_9ea2d wsJx4a65c_add_9ea2d) := goodIn_app (goodIn_of _ (by decide +kernel)) ggX5_publish_Jx4a65c_add_9ea2d
theorem dX5_publish_0 : decode cX5_publish 0 = .ok (.aload_n 0, 1) := by decide +kernel
theorem dX5_publish_1 : decode cX5_publish 1 = .ok (.iload_n 1, 1) := by decide +kernel
theorem dX5_publish_2 : decode cX5_publish 2 = .ok (.invokevirtual 50, 3) := by decide +kernel
theorem dX5_publish_5 : decode cX5_publish 5 = .ok (.astore_n 2, 1) := by decide +kernel
theorem dX5_publish_6 : decode cX5_publish 6 = .ok (.aload_n 2, 1) := by decide +kernel
theorem dX5_publish_7 : decode cX5_publish 7 = .ok (.invokevirtual 61, 3) := by decide +kernel
theorem dX5_publish_10 : decode cX5_publish 10 = .ok (.ifCond .ne 10, 3) := by decide +kernel
theorem dX5_publish_13 : decode cX5_publish 13 = .ok (.aload_n 2, 1) := by decide +kernel
theorem dX5_publish_14 : decode cX5_publish 14 = .ok (.invokevirtual 90, 3) := by decide +kernel
theorem dX5_publish_17 : decode cX5_publish 17 = .ok (.ifCond .eq 13, 3) := by decide +kernel
theorem dX5_publish_20 : decode cX5_publish 20 = .ok (.new 69, 3) := by decide +kernel
theorem dX5_publish_23 : decode cX5_publish 23 = .ok (.dup, 1) := by decide +kernel
theorem dX5_publish_24 : decode cX5_publish 24 = .ok (.ldc 126, 2) := by decide +kernel
theorem dX5_publish_26 : decode cX5_publish 26 = .ok (.invokespecial 73, 3) := by decide +kernel
theorem dX5_publish_29 : decode cX5_publish 29 = .ok (.athrow, 1) := by decide +kernel
theorem dX5_publish_30 : decode cX5_publish 30 = .ok (.aload_n 0, 1) := by decide +kernel
theorem dX5_publish_31 : decode cX5_publish 31 = .ok (.aload_n 2, 1) := by decide +kernel
theorem dX5_publish_32 : decode cX5_publish 32 = .ok (.invokevirtual 128, 3) := by decide +kernel
theorem dX5_publish_35 : decode cX5_publish 35 = .ok (.astore_n 3, 1) := by decide +kernel
theorem dX5_publish_36 : decode cX5_publish 36 = .ok (.aload_n 2, 1) := by decide +kernel
theorem dX5_publish_37 : decode cX5_publish 37 = .ok (.aload_n 3, 1) := by decide +kernel
theorem dX5_publish_38 : decode cX5_publish 38 = .ok (.putfield 132, 3) := by decide +kernel
theorem dX5_publish_41 : decode cX5_publish 41 = .ok (.aload_n 0, 1) := by decide +kernel
theorem dX5_publish_42 : decode cX5_publish 42 = .ok (.getfield 16, 3) := by decide +kernel
theorem dX5_publish_45 : decode cX5_publish 45 = .ok (.aload_n 2, 1) := by decide +kernel
theorem dX5_publish_46 : decode cX5_publish 46 = .ok (.invokevirtual 136, 3) := by decide +kernel
theorem dX5_publish_49 : decode cX5_publish 49 = .ok (.pop, 1) := by decide +kernel
theorem dX5_publish_50 : decode cX5_publish 50 = .ok (.aload_n 3, 1) := by decide +kernel
theorem dX5_publish_51 : decode cX5_publish 51 = .ok (.getfield 44, 3) := by decide +kernel
theorem dX5_publish_54 : decode cX5_publish 54 = .ok (.ireturn, 1) := by decide +kernel
set_option maxRecDepth 20000 in
theorem ggX5_original_X5_patternAt : GoodIn wsX5_original wsX5_patternAt := goodIn_ca (goodIn_r _ [7, 8, 9, 10, 11, 12, 13, 14, 15, 16, 17, 18, 19, 20, 21, 22, 23, 24, 25, 26, 27, 28, 29, 30, 31, 32, 33, 34, 44, 45, 46, 47, 48, 49, 50, 51] (by decide +kernel) (by decide +kernel)) (goodIn_sub (fun _ h => List.mem_cons_of_mem _ (List.mem_append_right _ h)) (by decide +kernel))
set_option maxRecDepth 20000 in
theorem gX5_original_X5_patternAt : GoodIn wsX5_original (wsV RX5 50 RX5 yX5_patternAt wsX5_patternAt) := goodIn_app (goodIn_of _ (by decide +kernel)) ggX5_original_X5_patternAt
theorem dX5_original_0 : decode cX5_original 0 = .ok (.aload_n 0, 1) := by decide +kernel
theorem dX5_original_1 : decode cX5_original 1 = .ok (.iload_n 1, 1) := by decide +kernel
theorem dX5_original_2 : decode cX5_original 2 = .ok (.invokevirtual 50, 3) := by decide +kernel
theorem dX5_original_5 : decode cX5_original 5 = .ok (.getfield 132, 3) := by decide +kernel
theorem dX5_original_8 : decode cX5_original 8 = .ok (.astore_n 2, 1) := by decide +kernel
theorem dX5_original_9 : decode cX5_original 9 = .ok (.aload_n 2, 1) := by decide +kernel
theorem dX5_original_10 : decode cX5_original 10 = .ok (.ifnonnull 7, 3) := by decide +kernel
theorem dX5_original_13 : decode cX5_original 13 = .ok (.iconst (-1), 1) := by decide +kernel
theorem dX5_original_14 : decode cX5_original 14 = .ok (.goto 7, 3) := by decide +kernel
theorem dX5_original_17 : decode cX5_original 17 = .ok (.aload_n 2, 1) := by decide +kernel
theorem dX5_original_18 : decode cX5_original 18 = .ok (.getfield 44, 3) := by decide +kernel
theorem dX5_original_21 : decode cX5_original 21 = .ok (.ireturn, 1) := by decide +kernel
set_option maxRecDepth 20000 in
theorem ggX5_rows_X5_patternAt : GoodIn wsX5_rows wsX5_patternAt := goodIn_ca (goodIn_r _ [7, 8, 9, 10, 11, 12, 13, 14, 15, 16, 17, 18, 19, 20, 21, 22, 23, 24, 25, 26, 27, 28, 29, 30, 31, 32, 33, 34, 48, 49, 50, 51, 52, 53, 54, 55] (by decide +kernel) (by decide +kernel)) (goodIn_sub (fun _ h => List.mem_cons_of_mem _ (List.mem_append_right _ h)) (by decide +kernel))
set_option maxRecDepth 20000 in
theorem gX5_rows_X5_patternAt : GoodIn wsX5_rows (wsV RX5 50 RX5 yX5_patternAt wsX5_patternAt) := goodIn_app (goodIn_of _ (by decide +kernel)) ggX5_rows_X5_patternAt
theorem dX5_rows_0 : decode cX5_rows 0 = .ok (.aload_n 0, 1) := by decide +kernel
theorem dX5_rows_1 : decode cX5_rows 1 = .ok (.iload_n 1, 1) := by decide +kernel
theorem dX5_rows_2 : decode cX5_rows 2 = .ok (.invokevirtual 50, 3) := by decide +kernel
theorem dX5_rows_5 : decode cX5_rows 5 = .ok (.getfield 78, 3) := by decide +kernel
theorem dX5_rows_8 : decode cX5_rows 8 = .ok (.getfield 82, 3) := by decide +kernel
theorem dX5_rows_11 : decode cX5_rows 11 = .ok (.ireturn, 1) := by decide +kernel
set_option maxRecDepth 20000 in
theorem ggX5_stitch_X5_patternAt : GoodIn wsX5_stitch wsX5_patternAt := goodIn_ca (goodIn_r _ [6, 7, 8, 9, 10, 11, 12, 13, 14, 15, 16, 17, 18, 19, 20, 21, 22, 23, 24, 25, 26, 27, 28, 29, 30, 31, 32, 33, 53, 54, 55, 56, 57, 58, 59, 60] (by decide +kernel) (by decide +kernel)) (goodIn_sub (fun _ h => List.mem_cons_of_mem _ (List.mem_append_right _ h)) (by decide +kernel))
set_option maxRecDepth 20000 in
theorem gX5_stitch_X5_patternAt : GoodIn wsX5_stitch (wsV RX5 50 RX5 yX5_patternAt wsX5_patternAt) := goodIn_app (goodIn_of _ (by decide +kernel)) ggX5_stitch_X5_patternAt
set_option maxRecDepth 20000 in
theorem ggX5_stitch_X5_checkPlace : GoodIn wsX5_stitch wsX5_checkPlace := goodIn_ca (goodIn_r _ [36, 7, 8, 1, 37, 44, 45, 46, 47, 48, 49, 50, 51, 52, 61, 62, 63, 64] (by decide +kernel) (by decide +kernel)) (goodIn_sub (fun _ h => List.mem_cons_of_mem _ (List.mem_append_right _ h)) (by decide +kernel))
set_option maxRecDepth 20000 in
theorem gX5_stitch_X5_checkPlace : GoodIn wsX5_stitch (va_wsS RX5 140 yX5_checkPlace wsX5_checkPlace) := goodIn_app (goodIn_of _ (by decide +kernel)) ggX5_stitch_X5_checkPlace
set_option maxRecDepth 20000 in
theorem ggX5_stitch_X0_stitchAt : GoodIn wsX5_stitch wsX0_stitchAt := goodIn_r _ [42, 43, 61, 62, 63, 64] (by decide +kernel) (by decide +kernel)
set_option maxRecDepth 20000 in
theorem gX5_stitch_X0_stitchAt : GoodIn wsX5_stitch (wsV RX5 144 RX0 yX0_stitchAt wsX0_stitchAt) := goodIn_app (goodIn_of _ (by decide +kernel)) ggX5_stitch_X0_stitchAt
theorem dX5_stitch_0 : decode cX5_stitch 0 = .ok (.aload_n 0, 1) := by decide +kernel
theorem dX5_stitch_1 : decode cX5_stitch 1 = .ok (.iload_n 1, 1) := by decide +kernel
theorem dX5_stitch_2 : decode cX5_stitch 2 = .ok (.invokevirtual 50, 3) := by decide +kernel
theorem dX5_stitch_5 : decode cX5_stitch 5 = .ok (.astore 4, 2) := by decide +kernel
theorem dX5_stitch_7 : decode cX5_stitch 7 = .ok (.aload 4, 2) := by decide +kernel
theorem dX5_stitch_9 : decode cX5_stitch 9 = .ok (.iload_n 2, 1) := by decide +kernel
theorem dX5_stitch_10 : decode cX5_stitch 10 = .ok (.iload_n 3, 1) := by decide +kernel
theorem dX5_stitch_11 : decode cX5_stitch 11 = .ok (.invokestatic 140, 3) := by decide +kernel
theorem dX5_stitch_14 : decode cX5_stitch 14 = .ok (.aload 4, 2) := by decide +kernel
theorem dX5_stitch_16 : decode cX5_stitch 16 = .ok (.getfield 78, 3) := by decide +kernel
theorem dX5_stitch_19 : decode cX5_stitch 19 = .ok (.iload_n 2, 1) := by decide +kernel
theorem dX5_stitch_20 : decode cX5_stitch 20 = .ok (.iload_n 3, 1) := by decide +kernel
theorem dX5_stitch_21 : decode cX5_stitch 21 = .ok (.invokevirtual 144, 3) := by decide +kernel
theorem dX5_stitch_24 : decode cX5_stitch 24 = .ok (.ireturn, 1) := by decide +kernel
set_option maxRecDepth 20000 in
theorem ggX5_stitchByWork_X5_patternAt : GoodIn wsX5_stitchByWork wsX5_patternAt := goodIn_ca (goodIn_r _ [6, 7, 8, 9, 10, 11, 12, 13, 14, 15, 16, 17, 18, 19, 20, 21, 22, 23, 24, 25, 26, 27, 28, 29, 30, 31, 32, 33, 75, 76, 77, 78, 79, 80, 81, 82] (by decide +kernel) (by decide +kernel)) (goodIn_sub (fun _ h => List.mem_cons_of_mem _ (List.mem_append_right _ h)) (by decide +kernel))
set_option maxRecDepth 20000 in
theorem gX5_stitchByWork_X5_patternAt : GoodIn wsX5_stitchByWork (wsV RX5 50 RX5 yX5_patternAt wsX5_patternAt) := goodIn_app (goodIn_of _ (by decide +kernel)) ggX5_stitchByWork_X5_patternAt
set_option maxRecDepth 20000 in
theorem ggX5_stitchByWork_X5_checkPlace : GoodIn wsX5_stitchByWork wsX5_checkPlace := goodIn_ca (goodIn_r _ [36, 7, 8, 37, 38, 66, 67, 68, 69, 70, 71, 72, 73, 74, 83, 84, 85, 86] (by decide +kernel) (by decide +kernel)) (goodIn_sub (fun _ h => List.mem_cons_of_mem _ (List.mem_append_right _ h)) (by decide +kernel))
set_option maxRecDepth 20000 in
theorem gX5_stitchByWork_X5_checkPlace : GoodIn wsX5_stitchByWork (va_wsS RX5 140 yX5_checkPlace wsX5_checkPlace) := goodIn_app (goodIn_of _ (by decide +kernel)) ggX5_stitchByWork_X5_checkPlace
set_option maxRecDepth 20000 in
theorem ggX5_stitchByWork_X3_workTo : GoodIn wsX5_stitchByWork wsX3_workTo := goodIn_r _ [43, 44, 45, 46, 47, 48, 49, 50, 42, 51, 52, 53, 54, 5, 55, 56, 57, 58, 59, 60, 61, 62, 63, 64, 65, 87, 88, 89, 90, 91, 92] (by decide +kernel) (by decide +kernel)
set_option maxRecDepth 20000 in
theorem gX5_stitchByWork_X3_workTo : GoodIn wsX5_stitchByWork (wsV RX5 147 RX3 yX3_workTo wsX3_workTo) := goodIn_app (goodIn_of _ (by decide +kernel)) ggX5_stitchByWork_X3_workTo
theorem dX5_stitchByWork_0 : decode cX5_stitchByWork 0 = .ok (.aload_n 0, 1) := by decide +kernel
theorem dX5_stitchByWork_1 : decode cX5_stitchByWork 1 = .ok (.iload_n 1, 1) := by decide +kernel
theorem dX5_stitchByWork_2 : decode cX5_stitchByWork 2 = .ok (.invokevirtual 50, 3) := by decide +kernel
theorem dX5_stitchByWork_5 : decode cX5_stitchByWork 5 = .ok (.astore 4, 2) := by decide +kernel
theorem dX5_stitchByWork_7 : decode cX5_stitchByWork 7 = .ok (.aload 4, 2) := by decide +kernel
theorem dX5_stitchByWork_9 : decode cX5_stitchByWork 9 = .ok (.iload_n 2, 1) := by decide +kernel
theorem dX5_stitchByWork_10 : decode cX5_stitchByWork 10 = .ok (.iload_n 3, 1) := by decide +kernel
theorem dX5_stitchByWork_11 : decode cX5_stitchByWork 11 = .ok (.invokestatic 140, 3) := by decide +kernel
theorem dX5_stitchByWork_14 : decode cX5_stitchByWork 14 = .ok (.aload 4, 2) := by decide +kernel
theorem dX5_stitchByWork_16 : decode cX5_stitchByWork 16 = .ok (.getfield 93, 3) := by decide +kernel
theorem dX5_stitchByWork_19 : decode cX5_stitchByWork 19 = .ok (.iload_n 2, 1) := by decide +kernel
theorem dX5_stitchByWork_20 : decode cX5_stitchByWork 20 = .ok (.iload_n 3, 1) := by decide +kernel
theorem dX5_stitchByWork_21 : decode cX5_stitchByWork 21 = .ok (.invokevirtual 147, 3) := by decide +kernel
theorem dX5_stitchByWork_24 : decode cX5_stitchByWork 24 = .ok (.ireturn, 1) := by decide +kernel
set_option maxRecDepth 20000 in
theorem ggX5_need_X5_patternAt : GoodIn wsX5_need wsX5_patternAt := goodIn_ca (goodIn_r _ [6, 7, 8, 9, 10, 11, 12, 13, 14, 15, 16, 17, 18, 19, 20, 21, 22, 23, 24, 25, 26, 27, 28, 29, 30, 31, 32, 33, 58, 59, 60, 61, 62, 63, 64, 65] (by decide +kernel) (by decide +kernel)) (goodIn_sub (fun _ h => List.mem_cons_of_mem _ (List.mem_append_left _ (List.mem_append_right _ h))) (by decide +kernel))
set_option maxRecDepth 20000 in
theorem gX5_need_X5_patternAt : GoodIn wsX5_need (wsV RX5 50 RX5 yX5_patternAt wsX5_patternAt) := goodIn_app (goodIn_of _ (by decide +kernel)) ggX5_need_X5_patternAt
set_option maxRecDepth 20000 in
theorem ggX5_need_X5_checkGauge : GoodIn wsX5_need wsX5_checkGauge := goodIn_ca (goodIn_r _ [36, 37, 38, 5, 39, 40, 41] (by decide +kernel) (by decide +kernel)) (goodIn_sub (fun _ h => List.mem_cons_of_mem _ (List.mem_append_right _ h)) (by decide +kernel))
set_option maxRecDepth 20000 in
theorem gX5_need_X5_checkGauge : GoodIn wsX5_need (va_wsS RX5 87 yX5_checkGauge wsX5_checkGauge) := goodIn_app (goodIn_of _ (by decide +kernel)) ggX5_need_X5_checkGauge
set_option maxRecDepth 20000 in
theorem ggX5_need_X0_yarnOfAllRows : GoodIn wsX5_need wsX0_yarnOfAllRows := goodIn_r _ [46, 47, 48, 66, 67, 68, 69] (by decide +kernel) (by decide +kernel)
set_option maxRecDepth 20000 in
theorem gX5_need_X0_yarnOfAllRows : GoodIn wsX5_need (wsV RX5 150 RX0 yX0_yarnOfAllRows wsX0_yarnOfAllRows) := goodIn_app (goodIn_of _ (by decide +kernel)) ggX5_need_X0_yarnOfAllRows
theorem dX5_need_0 : decode cX5_need 0 = .ok (.aload_n 0, 1) := by decide +kernel
theorem dX5_need_1 : decode cX5_need 1 = .ok (.iload_n 1, 1) := by decide +kernel
theorem dX5_need_2 : decode cX5_need 2 = .ok (.invokevirtual 50, 3) := by decide +kernel
theorem dX5_need_5 : decode cX5_need 5 = .ok (.astore_n 3, 1) := by decide +kernel
theorem dX5_need_6 : decode cX5_need 6 = .ok (.iload_n 2, 1) := by decide +kernel
theorem dX5_need_7 : decode cX5_need 7 = .ok (.invokestatic 87, 3) := by decide +kernel
theorem dX5_need_10 : decode cX5_need 10 = .ok (.iload_n 2, 1) := by decide +kernel
theorem dX5_need_11 : decode cX5_need 11 = .ok (.aload_n 3, 1) := by decide +kernel
theorem dX5_need_12 : decode cX5_need 12 = .ok (.getfield 78, 3) := by decide +kernel
theorem dX5_need_15 : decode cX5_need 15 = .ok (.invokevirtual 150, 3) := by decide +kernel
theorem dX5_need_18 : decode cX5_need 18 = .ok (.imul, 1) := by decide +kernel
theorem dX5_need_19 : decode cX5_need 19 = .ok (.ireturn, 1) := by decide +kernel
set_option maxRecDepth 20000 in
theorem ggX5_buy_X5_patternAt : GoodIn wsX5_buy wsX5_patternAt := goodIn_ca (goodIn_r _ [13, 14, 15, 16, 17, 18, 19, 20, 21, 22, 23, 24, 25, 26, 27, 28, 29, 30, 31, 32, 33, 34, 35, 36, 37, 38, 39, 40, 65, 66, 67, 68, 69, 70, 71, 72] (by decide +kernel) (by decide +kernel)) (goodIn_sub (fun _ h => List.mem_cons_of_mem _ (List.mem_append_right _ h)) (by decide +kernel))
set_option maxRecDepth 20000 in
theorem gX5_buy_X5_patternAt : GoodIn wsX5_buy (wsV RX5 50 RX5 yX5_patternAt wsX5_patternAt) := goodIn_app (goodIn_of _ (by decide +kernel)) ggX5_buy_X5_patternAt
set_option maxRecDepth 20000 in
theorem ggX5_buy_X5_checkPerson : GoodIn wsX5_buy wsX5_checkPerson := goodIn_ca (goodIn_r _ [43, 14, 15] (by decide +kernel) (by decide +kernel)) (goodIn_sub (fun _ h => List.mem_cons_of_mem _ (List.mem_append_right _ h)) (by decide +kernel))
set_option maxRecDepth 20000 in
theorem gX5_buy_X5_checkPerson : GoodIn wsX5_buy (va_wsS RX5 29 yX5_checkPerson wsX5_checkPerson) := goodIn_app (goodIn_of _ (by decide +kernel)) ggX5_buy_X5_checkPerson
set_option maxRecDepth 20000 in
theorem ggX5_buy_X2_isPublished : GoodIn wsX5_buy wsX2_isPublished := goodIn_r _ [48, 49, 56, 57, 58, 59, 60, 61, 62, 63, 64] (by decide +kernel) (by decide +kernel)
set_option maxRecDepth 20000 in
theorem gX5_buy_X2_isPublished : GoodIn wsX5_buy (wsV RX5 61 RX2 yX2_isPublished wsX2_isPublished) := goodIn_app (goodIn_of _ (by decide +kernel)) ggX5_buy_X2_isPublished
set_option maxRecDepth 20000 in
theorem ggX5_buy_X2_mayBeKnittedBy : GoodIn wsX5_buy wsX2_mayBeKnittedBy := goodIn_r _ [53, 54, 55, 56, 57, 58, 59, 60, 61, 62, 63, 64] (by decide +kernel) (by decide +kernel)
set_option maxRecDepth 20000 in
theorem gX5_buy_X2_mayBeKnittedBy : GoodIn wsX5_buy (wsV RX5 158 RX2 yX2_mayBeKnittedBy wsX2_mayBeKnittedBy) := goodIn_app (goodIn_of _ (by decide +kernel)) ggX5_buy_X2_mayBeKnittedBy
theorem dX5_buy_0 : decode cX5_buy 0 = .ok (.aload_n 0, 1) := by decide +kernel
theorem dX5_buy_1 : decode cX5_buy 1 = .ok (.iload_n 1, 1) := by decide +kernel
theorem dX5_buy_2 : decode cX5_buy 2 = .ok (.invokevirtual 50, 3) := by decide +kernel
theorem dX5_buy_5 : decode cX5_buy 5 = .ok (.astore_n 3, 1) := by decide +kernel
theorem dX5_buy_6 : decode cX5_buy 6 = .ok (.iload_n 2, 1) := by decide +kernel
theorem dX5_buy_7 : decode cX5_buy 7 = .ok (.invokestatic 29, 3) := by decide +kernel
theorem dX5_buy_10 : decode cX5_buy 10 = .ok (.aload_n 3, 1) := by decide +kernel
theorem dX5_buy_11 : decode cX5_buy 11 = .ok (.invokevirtual 61, 3) := by decide +kernel
theorem dX5_buy_14 : decode cX5_buy 14 = .ok (.ifCond .eq 18, 3) := by decide +kernel
theorem dX5_buy_17 : decode cX5_buy 17 = .ok (.aload_n 3, 1) := by decide +kernel
theorem dX5_buy_18 : decode cX5_buy 18 = .ok (.getfield 154, 3) := by decide +kernel
theorem dX5_buy_21 : decode cX5_buy 21 = .ok (.ifCond .ne 11, 3) := by decide +kernel
theorem dX5_buy_24 : decode cX5_buy 24 = .ok (.aload_n 3, 1) := by decide +kernel
theorem dX5_buy_25 : decode cX5_buy 25 = .ok (.iload_n 2, 1) := by decide +kernel
theorem dX5_buy_26 : decode cX5_buy 26 = .ok (.invokevirtual 158, 3) := by decide +kernel
theorem dX5_buy_29 : decode cX5_buy 29 = .ok (.ifCond .eq 13, 3) := by decide +kernel
theorem dX5_buy_32 : decode cX5_buy 32 = .ok (.new 69, 3) := by decide +kernel
theorem dX5_buy_35 : decode cX5_buy 35 = .ok (.dup, 1) := by decide +kernel
theorem dX5_buy_36 : decode cX5_buy 36 = .ok (.ldc 161, 2) := by decide +kernel
theorem dX5_buy_38 : decode cX5_buy 38 = .ok (.invokespecial 73, 3) := by decide +kernel
theorem dX5_buy_41 : decode cX5_buy 41 = .ok (.athrow, 1) := by decide +kernel
theorem dX5_buy_42 : decode cX5_buy 42 = .ok (.aload_n 3, 1) := by decide +kernel
theorem dX5_buy_43 : decode cX5_buy 43 = .ok (.getfield 163, 3) := by decide +kernel
theorem dX5_buy_46 : decode cX5_buy 46 = .ok (.iload_n 2, 1) := by decide +kernel
theorem dX5_buy_47 : decode cX5_buy 47 = .ok (.iconst 1, 1) := by decide +kernel
theorem dX5_buy_48 : decode cX5_buy 48 = .ok (.bastore, 1) := by decide +kernel
theorem dX5_buy_49 : decode cX5_buy 49 = .ok (.aload_n 3, 1) := by decide +kernel
theorem dX5_buy_50 : decode cX5_buy 50 = .ok (.dup, 1) := by decide +kernel
theorem dX5_buy_51 : decode cX5_buy 51 = .ok (.getfield 167, 3) := by decide +kernel
theorem dX5_buy_54 : decode cX5_buy 54 = .ok (.aload_n 3, 1) := by decide +kernel
theorem dX5_buy_55 : decode cX5_buy 55 = .ok (.getfield 119, 3) := by decide +kernel
theorem dX5_buy_58 : decode cX5_buy 58 = .ok (.iadd, 1) := by decide +kernel
theorem dX5_buy_59 : decode cX5_buy 59 = .ok (.putfield 167, 3) := by decide +kernel
theorem dX5_buy_62 : decode cX5_buy 62 = .ok (.aload_n 0, 1) := by decide +kernel
theorem dX5_buy_63 : decode cX5_buy 63 = .ok (.getfield 25, 3) := by decide +kernel
theorem dX5_buy_66 : decode cX5_buy 66 = .ok (.iload_n 2, 1) := by decide +kernel
theorem dX5_buy_67 : decode cX5_buy 67 = .ok (.dup2, 1) := by decide +kernel
theorem dX5_buy_68 : decode cX5_buy 68 = .ok (.iaload, 1) := by decide +kernel
theorem dX5_buy_69 : decode cX5_buy 69 = .ok (.aload_n 3, 1) := by decide +kernel
theorem dX5_buy_70 : decode cX5_buy 70 = .ok (.getfield 119, 3) := by decide +kernel
theorem dX5_buy_73 : decode cX5_buy 73 = .ok (.isub, 1) := by decide +kernel
theorem dX5_buy_74 : decode cX5_buy 74 = .ok (.iastore, 1) := by decide +kernel
theorem dX5_buy_75 : decode cX5_buy 75 = .ok (.aload_n 0, 1) := by decide +kernel
theorem dX5_buy_76 : decode cX5_buy 76 = .ok (.getfield 25, 3) := by decide +kernel
theorem dX5_buy_79 : decode cX5_buy 79 = .ok (.aload_n 3, 1) := by decide +kernel
theorem dX5_buy_80 : decode cX5_buy 80 = .ok (.getfield 116, 3) := by decide +kernel
theorem dX5_buy_83 : decode cX5_buy 83 = .ok (.dup2, 1) := by decide +kernel
theorem dX5_buy_84 : decode cX5_buy 84 = .ok (.iaload, 1) := by decide +kernel
theorem dX5_buy_85 : decode cX5_buy 85 = .ok (.aload_n 3, 1) := by decide +kernel
theorem dX5_buy_86 : decode cX5_buy 86 = .ok (.getfield 119, 3) := by decide +kernel
theorem dX5_buy_89 : decode cX5_buy 89 = .ok (.iadd, 1) := by decide +kernel
theorem dX5_buy_90 : decode cX5_buy 90 = .ok (.iastore, 1) := by decide +kernel
theorem dX5_buy_91 : decode cX5_buy 91 = .ok (.aload_n 0, 1) := by decide +kernel
theorem dX5_buy_92 : decode cX5_buy 92 = .ok (.getfield 25, 3) := by decide +kernel
theorem dX5_buy_95 : decode cX5_buy 95 = .ok (.aload_n 3, 1) := by decide +kernel
theorem dX5_buy_96 : decode cX5_buy 96 = .ok (.getfield 116, 3) := by decide +kernel
theorem dX5_buy_99 : decode cX5_buy 99 = .ok (.iaload, 1) := by decide +kernel
theorem dX5_buy_100 : decode cX5_buy 100 = .ok (.ireturn, 1) := by decide +kernel
set_option maxRecDepth 20000 in
theorem ggX5_rule_X5_patternAt : GoodIn wsX5_rule wsX5_patternAt := goodIn_ca (goodIn_r _ [12, 13, 14, 15, 16, 17, 18, 19, 20, 21, 22, 23, 24, 25, 26, 27, 28, 29, 30, 31, 32, 33, 34, 35, 36, 37, 38, 39, 49, 50, 51, 52, 53, 54, 55, 56] (by decide +kernel) (by decide +kernel)) (goodIn_sub (fun _ h => List.mem_cons_of_mem _ (List.mem_append_right _ h)) (by decide +kernel))
set_option maxRecDepth 20000 in
theorem gX5_rule_X5_patternAt : GoodIn wsX5_rule (wsV RX5 50 RX5 yX5_patternAt wsX5_patternAt) := goodIn_app (goodIn_of _ (by decide +kernel)) ggX5_rule_X5_patternAt
theorem dX5_rule_0 : decode cX5_rule 0 = .ok (.aload_n 0, 1) := by decide +kernel
theorem dX5_rule_1 : decode cX5_rule 1 = .ok (.iload_n 1, 1) := by decide +kernel
theorem dX5_rule_2 : decode cX5_rule 2 = .ok (.invokevirtual 50, 3) := by decide +kernel
theorem dX5_rule_5 : decode cX5_rule 5 = .ok (.astore_n 2, 1) := by decide +kernel
theorem dX5_rule_6 : decode cX5_rule 6 = .ok (.aload_n 2, 1) := by decide +kernel
theorem dX5_rule_7 : decode cX5_rule 7 = .ok (.getfield 132, 3) := by decide +kernel
theorem dX5_rule_10 : decode cX5_rule 10 = .ok (.astore_n 3, 1) := by decide +kernel
theorem dX5_rule_11 : decode cX5_rule 11 = .ok (.aload_n 3, 1) := by decide +kernel
theorem dX5_rule_12 : decode cX5_rule 12 = .ok (.ifnull 21, 3) := by decide +kernel
theorem dX5_rule_15 : decode cX5_rule 15 = .ok (.aload_n 3, 1) := by decide +kernel
theorem dX5_rule_16 : decode cX5_rule 16 = .ok (.getfield 116, 3) := by decide +kernel
theorem dX5_rule_19 : decode cX5_rule 19 = .ok (.aload_n 2, 1) := by decide +kernel
theorem dX5_rule_20 : decode cX5_rule 20 = .ok (.getfield 116, 3) := by decide +kernel
theorem dX5_rule_23 : decode cX5_rule 23 = .ok (.if_icmp .eq 10, 3) := by decide +kernel
theorem dX5_rule_26 : decode cX5_rule 26 = .ok (.aload_n 2, 1) := by decide +kernel
theorem dX5_rule_27 : decode cX5_rule 27 = .ok (.getfield 154, 3) := by decide +kernel
theorem dX5_rule_30 : decode cX5_rule 30 = .ok (.ifCond .eq 13, 3) := by decide +kernel
theorem dX5_rule_33 : decode cX5_rule 33 = .ok (.new 69, 3) := by decide +kernel
theorem dX5_rule_36 : decode cX5_rule 36 = .ok (.dup, 1) := by decide +kernel
theorem dX5_rule_37 : decode cX5_rule 37 = .ok (.ldc 170, 2) := by decide +kernel
theorem dX5_rule_39 : decode cX5_rule 39 = .ok (.invokespecial 73, 3) := by decide +kernel
theorem dX5_rule_42 : decode cX5_rule 42 = .ok (.athrow, 1) := by decide +kernel
theorem dX5_rule_43 : decode cX5_rule 43 = .ok (.aload_n 2, 1) := by decide +kernel
theorem dX5_rule_44 : decode cX5_rule 44 = .ok (.iconst 1, 1) := by decide +kernel
theorem dX5_rule_45 : decode cX5_rule 45 = .ok (.putfield 154, 3) := by decide +kernel
theorem dX5_rule_48 : decode cX5_rule 48 = .ok (.aload_n 0, 1) := by decide +kernel
theorem dX5_rule_49 : decode cX5_rule 49 = .ok (.getfield 25, 3) := by decide +kernel
theorem dX5_rule_52 : decode cX5_rule 52 = .ok (.aload_n 2, 1) := by decide +kernel
theorem dX5_rule_53 : decode cX5_rule 53 = .ok (.getfield 116, 3) := by decide +kernel
theorem dX5_rule_56 : decode cX5_rule 56 = .ok (.dup2, 1) := by decide +kernel
theorem dX5_rule_57 : decode cX5_rule 57 = .ok (.iaload, 1) := by decide +kernel
theorem dX5_rule_58 : decode cX5_rule 58 = .ok (.aload_n 2, 1) := by decide +kernel
theorem dX5_rule_59 : decode cX5_rule 59 = .ok (.getfield 167, 3) := by decide +kernel
theorem dX5_rule_62 : decode cX5_rule 62 = .ok (.isub, 1) := by decide +kernel
theorem dX5_rule_63 : decode cX5_rule 63 = .ok (.iastore, 1) := by decide +kernel
theorem dX5_rule_64 : decode cX5_rule 64 = .ok (.aload_n 0, 1) := by decide +kernel
theorem dX5_rule_65 : decode cX5_rule 65 = .ok (.getfield 25, 3) := by decide +kernel
theorem dX5_rule_68 : decode cX5_rule 68 = .ok (.aload_n 3, 1) := by decide +kernel
theorem dX5_rule_69 : decode cX5_rule 69 = .ok (.getfield 116, 3) := by decide +kernel
theorem dX5_rule_72 : decode cX5_rule 72 = .ok (.dup2, 1) := by decide +kernel
theorem dX5_rule_73 : decode cX5_rule 73 = .ok (.iaload, 1) := by decide +kernel
theorem dX5_rule_74 : decode cX5_rule 74 = .ok (.aload_n 2, 1) := by decide +kernel
theorem dX5_rule_75 : decode cX5_rule 75 = .ok (.getfield 167, 3) := by decide +kernel
theorem dX5_rule_78 : decode cX5_rule 78 = .ok (.iadd, 1) := by decide +kernel
theorem dX5_rule_79 : decode cX5_rule 79 = .ok (.iastore, 1) := by decide +kernel
theorem dX5_rule_80 : decode cX5_rule 80 = .ok (.aload_n 2, 1) := by decide +kernel
theorem dX5_rule_81 : decode cX5_rule 81 = .ok (.getfield 167, 3) := by decide +kernel
theorem dX5_rule_84 : decode cX5_rule 84 = .ok (.ireturn, 1) := by decide +kernel
set_option maxRecDepth 20000 in
theorem ggX5_money_X5_checkPerson : GoodIn wsX5_money wsX5_checkPerson := goodIn_ca (goodIn_r _ [5, 6, 7] (by decide +kernel) (by decide +kernel)) (goodIn_sub (fun _ h => List.mem_cons_of_mem _ (List.mem_append_right _ h)) (by decide +kernel))
set_option maxRecDepth 20000 in
theorem gX5_money_X5_checkPerson : GoodIn wsX5_money (va_wsS RX5 29 yX5_checkPerson wsX5_checkPerson) := goodIn_app (goodIn_of _ (by decide +kernel)) ggX5_money_X5_checkPerson
theorem dX5_money_0 : decode cX5_money 0 = .ok (.iload_n 1, 1) := by decide +kernel
theorem dX5_money_1 : decode cX5_money 1 = .ok (.invokestatic 29, 3) := by decide +kernel
theorem dX5_money_4 : decode cX5_money 4 = .ok (.aload_n 0, 1) := by decide +kernel
theorem dX5_money_5 : decode cX5_money 5 = .ok (.getfield 25, 3) := by decide +kernel
theorem dX5_money_8 : decode cX5_money 8 = .ok (.iload_n 1, 1) := by decide +kernel
theorem dX5_money_9 : decode cX5_money 9 = .ok (.iaload, 1) := by decide +kernel
theorem dX5_money_10 : decode cX5_money 10 = .ok (.ireturn, 1) := by decide +kernel
set_option maxRecDepth 20000 in
theorem ggX5_lot_X5_checkPerson : GoodIn wsX5_lot wsX5_checkPerson := goodIn_ca (goodIn_r _ [11, 12, 13] (by decide +kernel) (by decide +kernel)) (goodIn_sub (fun _ h => List.mem_cons_of_mem _ (List.mem_append_left _ (List.mem_append_right _ h))) (by decide +kernel))
set_option maxRecDepth 20000 in
theorem gX5_lot_X5_checkPerson : GoodIn wsX5_lot (va_wsS RX5 29 yX5_checkPerson wsX5_checkPerson) := goodIn_app (goodIn_of _ (by decide +kernel)) ggX5_lot_X5_checkPerson
set_option maxRecDepth 20000 in
theorem ggX5_lot_X5_checkGauge : GoodIn wsX5_lot wsX5_checkGauge := goodIn_ca (goodIn_r _ [16, 17, 18, 10, 19, 20, 21] (by decide +kernel) (by decide +kernel)) (goodIn_sub (fun _ h => List.mem_cons_of_mem _ (List.mem_append_right _ h)) (by decide +kernel))
set_option maxRecDepth 20000 in
theorem gX5_lot_X5_checkGauge : GoodIn wsX5_lot (va_wsS RX5 87 yX5_checkGauge wsX5_checkGauge) := goodIn_app (goodIn_of _ (by decide +kernel)) ggX5_lot_X5_checkGauge
set_option maxRecDepth 20000 in
theorem ggX5_lot_X5_checkRange : GoodIn wsX5_lot wsX5_checkRange := goodIn_ca (goodIn_r _ [19, 20, 21] (by decide +kernel) (by decide +kernel)) (goodIn_sub (fun _ h => List.mem_cons_of_mem _ (List.mem_append_right _ h)) (by decide +kernel))
set_option maxRecDepth 20000 in
theorem gX5_lot_X5_checkRange : GoodIn wsX5_lot (va_wsS RX5 33 yX5_checkRange wsX5_checkRange) := goodIn_app (goodIn_of _ (by decide +kernel)) ggX5_lot_X5_checkRange
set_option maxRecDepth 20000 in
theorem ggX5_lot_Jx4a65c_size_8abf5 : GoodIn wsX5_lot wsJx4a65c_size_8abf5 := goodIn_r _ [26, 27, 101, 102, 103] (by decide +kernel) (by decide +kernel)
set_option maxRecDepth 20000 in
theorem gX5_lot_Jx4a65c_size_8abf5 : GoodIn wsX5_lot (wsV RX5 173 RJx4a65c yJx4a65c_size_8abf5 wsJx4a65c_size_8abf5) := goodIn_app (goodIn_of _ (by decide +kernel)) ggX5_lot_Jx4a65c_size_8abf5
set_option maxRecDepth 20000 in
theorem ggX5_lot_X1_init : GoodIn wsX5_lot wsX1_init := goodIn_r _ [30, 31, 32, 33, 34, 35, 36, 37, 97, 98, 99, 100] (by decide +kernel) (by decide +kernel)
set_option maxRecDepth 20000 in
theorem gX5_lot_X1_init : GoodIn wsX5_lot (wsX1_init) := ggX5_lot_X1_init
set_option maxRecDepth 20000 in
theorem ggX5_lot_Jx4a65c_add_9ea2d : GoodIn wsX5_lot wsJx4a65c_add_9ea2d := goodIn_r _ [41, 42, 43, 44, 27, 45, 46, 47, 25, 48, 49, 50, 51, 52, 53, 54, 55, 56, 57, 58, 59, 60, 61, 62, 63, 64, 65, 66, 67, 68, 69, 70, 71, 72, 73, 74, 75, 76, 77, 78, 79, 80, 81, 82, 83, 84, 85, 86, 87, 88, 89, 90, 91, 101, 102, 103] (by decide +kernel) (by decide +kernel)
set_option maxRecDepth 20000 in
theorem gX5_lot_Jx4a65c_add_9ea2d : GoodIn wsX5_lot (wsV RX5 136 RJx4a65c yJx4a65c_add_9ea2d wsJx4a65c_add_9ea2d) := goodIn_app (goodIn_of _ (by decide +kernel)) ggX5_lot_Jx4a65c_add_9ea2d
theorem dX5_lot_0 : decode cX5_lot 0 = .ok (.iload_n 1, 1) := by decide +kernel
theorem dX5_lot_1 : decode cX5_lot 1 = .ok (.invokestatic 29, 3) := by decide +kernel
theorem dX5_lot_4 : decode cX5_lot 4 = .ok (.iload_n 2, 1) := by decide +kernel
theorem dX5_lot_5 : decode cX5_lot 5 = .ok (.invokestatic 87, 3) := by decide +kernel
theorem dX5_lot_8 : decode cX5_lot 8 = .ok (.iload_n 3, 1) := by decide +kernel
theorem dX5_lot_9 : decode cX5_lot 9 = .ok (.iconst 1, 1) := by decide +kernel
theorem dX5_lot_10 : decode cX5_lot 10 = .ok (.ldc 172, 2) := by decide +kernel
theorem dX5_lot_12 : decode cX5_lot 12 = .ok (.invokestatic 33, 3) := by decide +kernel
theorem dX5_lot_15 : decode cX5_lot 15 = .ok (.aload_n 0, 1) := by decide +kernel
theorem dX5_lot_16 : decode cX5_lot 16 = .ok (.getfield 19, 3) := by decide +kernel
theorem dX5_lot_19 : decode cX5_lot 19 = .ok (.invokevirtual 173, 3) := by decide +kernel
theorem dX5_lot_22 : decode cX5_lot 22 = .ok (.istore 4, 2) := by decide +kernel
theorem dX5_lot_24 : decode cX5_lot 24 = .ok (.iload 4, 2) := by decide +kernel
theorem dX5_lot_26 : decode cX5_lot 26 = .ok (.bipush 20, 2) := by decide +kernel
theorem dX5_lot_28 : decode cX5_lot 28 = .ok (.if_icmp .lt 13, 3) := by decide +kernel
theorem dX5_lot_31 : decode cX5_lot 31 = .ok (.new 69, 3) := by decide +kernel
theorem dX5_lot_34 : decode cX5_lot 34 = .ok (.dup, 1) := by decide +kernel
theorem dX5_lot_35 : decode cX5_lot 35 = .ok (.ldc 176, 2) := by decide +kernel
theorem dX5_lot_37 : decode cX5_lot 37 = .ok (.invokespecial 73, 3) := by decide +kernel
theorem dX5_lot_40 : decode cX5_lot 40 = .ok (.athrow, 1) := by decide +kernel
theorem dX5_lot_41 : decode cX5_lot 41 = .ok (.aload_n 0, 1) := by decide +kernel
theorem dX5_lot_42 : decode cX5_lot 42 = .ok (.getfield 19, 3) := by decide +kernel
theorem dX5_lot_45 : decode cX5_lot 45 = .ok (.new 178, 3) := by decide +kernel
theorem dX5_lot_48 : decode cX5_lot 48 = .ok (.dup, 1) := by decide +kernel
theorem dX5_lot_49 : decode cX5_lot 49 = .ok (.iload 4, 2) := by decide +kernel
theorem dX5_lot_51 : decode cX5_lot 51 = .ok (.iload_n 1, 1) := by decide +kernel
theorem dX5_lot_52 : decode cX5_lot 52 = .ok (.iload_n 2, 1) := by decide +kernel
theorem dX5_lot_53 : decode cX5_lot 53 = .ok (.iload_n 3, 1) := by decide +kernel
theorem dX5_lot_54 : decode cX5_lot 54 = .ok (.invokespecial 180, 3) := by decide +kernel
theorem dX5_lot_57 : decode cX5_lot 57 = .ok (.invokevirtual 136, 3) := by decide +kernel
theorem dX5_lot_60 : decode cX5_lot 60 = .ok (.pop, 1) := by decide +kernel
theorem dX5_lot_61 : decode cX5_lot 61 = .ok (.iload 4, 2) := by decide +kernel
theorem dX5_lot_63 : decode cX5_lot 63 = .ok (.ireturn, 1) := by decide +kernel
set_option maxRecDepth 20000 in
theorem ggX5_swap_X5_lotAt : GoodIn wsX5_swap wsX5_lotAt := goodIn_ca (goodIn_r _ [8, 9, 10, 11, 12, 13, 14, 15, 16, 17, 18, 19, 20, 21, 22, 23, 24, 25, 26, 27, 28, 29, 30, 31, 32, 33, 34, 35, 40, 41, 42, 43, 44, 45, 46, 47] (by decide +kernel) (by decide +kernel)) (goodIn_sub (fun _ h => List.mem_cons_of_mem _ (List.mem_append_right _ h)) (by decide +kernel))
set_option maxRecDepth 20000 in
theorem gX5_swap_X5_lotAt : GoodIn wsX5_swap (wsV RX5 182 RX5 yX5_lotAt wsX5_lotAt) := goodIn_app (goodIn_of _ (by decide +kernel)) ggX5_swap_X5_lotAt
theorem dX5_swap_0 : decode cX5_swap 0 = .ok (.aload_n 0, 1) := by decide +kernel
theorem dX5_swap_1 : decode cX5_swap 1 = .ok (.iload_n 1, 1) := by decide +kernel
theorem dX5_swap_2 : decode cX5_swap 2 = .ok (.invokevirtual 182, 3) := by decide +kernel
theorem dX5_swap_5 : decode cX5_swap 5 = .ok (.astore_n 3, 1) := by decide +kernel
theorem dX5_swap_6 : decode cX5_swap 6 = .ok (.aload_n 0, 1) := by decide +kernel
theorem dX5_swap_7 : decode cX5_swap 7 = .ok (.iload_n 2, 1) := by decide +kernel
theorem dX5_swap_8 : decode cX5_swap 8 = .ok (.invokevirtual 182, 3) := by decide +kernel
theorem dX5_swap_11 : decode cX5_swap 11 = .ok (.astore 4, 2) := by decide +kernel
theorem dX5_swap_13 : decode cX5_swap 13 = .ok (.aload_n 3, 1) := by decide +kernel
theorem dX5_swap_14 : decode cX5_swap 14 = .ok (.getfield 186, 3) := by decide +kernel
theorem dX5_swap_17 : decode cX5_swap 17 = .ok (.aload 4, 2) := by decide +kernel
theorem dX5_swap_19 : decode cX5_swap 19 = .ok (.getfield 186, 3) := by decide +kernel
theorem dX5_swap_22 : decode cX5_swap 22 = .ok (.if_icmp .ne 13, 3) := by decide +kernel
theorem dX5_swap_25 : decode cX5_swap 25 = .ok (.new 69, 3) := by decide +kernel
theorem dX5_swap_28 : decode cX5_swap 28 = .ok (.dup, 1) := by decide +kernel
theorem dX5_swap_29 : decode cX5_swap 29 = .ok (.ldc 189, 2) := by decide +kernel
theorem dX5_swap_31 : decode cX5_swap 31 = .ok (.invokespecial 73, 3) := by decide +kernel
theorem dX5_swap_34 : decode cX5_swap 34 = .ok (.athrow, 1) := by decide +kernel
theorem dX5_swap_35 : decode cX5_swap 35 = .ok (.aload_n 3, 1) := by decide +kernel
theorem dX5_swap_36 : decode cX5_swap 36 = .ok (.getfield 186, 3) := by decide +kernel
theorem dX5_swap_39 : decode cX5_swap 39 = .ok (.istore 5, 2) := by decide +kernel
theorem dX5_swap_41 : decode cX5_swap 41 = .ok (.aload_n 3, 1) := by decide +kernel
theorem dX5_swap_42 : decode cX5_swap 42 = .ok (.aload 4, 2) := by decide +kernel
theorem dX5_swap_44 : decode cX5_swap 44 = .ok (.getfield 186, 3) := by decide +kernel
theorem dX5_swap_47 : decode cX5_swap 47 = .ok (.putfield 186, 3) := by decide +kernel
theorem dX5_swap_50 : decode cX5_swap 50 = .ok (.aload 4, 2) := by decide +kernel
theorem dX5_swap_52 : decode cX5_swap 52 = .ok (.iload 5, 2) := by decide +kernel
theorem dX5_swap_54 : decode cX5_swap 54 = .ok (.putfield 186, 3) := by decide +kernel
theorem dX5_swap_57 : decode cX5_swap 57 = .ok (.aload_n 3, 1) := by decide +kernel
theorem dX5_swap_58 : decode cX5_swap 58 = .ok (.getfield 186, 3) := by decide +kernel
theorem dX5_swap_61 : decode cX5_swap 61 = .ok (.ireturn, 1) := by decide +kernel
set_option maxRecDepth 20000 in
theorem ggX5_left_X5_lotAt : GoodIn wsX5_left wsX5_lotAt := goodIn_ca (goodIn_r _ [6, 7, 8, 9, 10, 11, 12, 13, 14, 15, 16, 17, 18, 19, 20, 21, 22, 23, 24, 25, 26, 27, 28, 29, 30, 31, 32, 33, 38, 39, 40, 41, 42, 43, 44, 45] (by decide +kernel) (by decide +kernel)) (goodIn_sub (fun _ h => List.mem_cons_of_mem _ (List.mem_append_right _ h)) (by decide +kernel))
set_option maxRecDepth 20000 in
theorem gX5_left_X5_lotAt : GoodIn wsX5_left (wsV RX5 182 RX5 yX5_lotAt wsX5_lotAt) := goodIn_app (goodIn_of _ (by decide +kernel)) ggX5_left_X5_lotAt
theorem dX5_left_0 : decode cX5_left 0 = .ok (.aload_n 0, 1) := by decide +kernel
theorem dX5_left_1 : decode cX5_left 1 = .ok (.iload_n 1, 1) := by decide +kernel
theorem dX5_left_2 : decode cX5_left 2 = .ok (.invokevirtual 182, 3) := by decide +kernel
theorem dX5_left_5 : decode cX5_left 5 = .ok (.getfield 191, 3) := by decide +kernel
theorem dX5_left_8 : decode cX5_left 8 = .ok (.ireturn, 1) := by decide +kernel
set_option maxRecDepth 20000 in
theorem ggX5_project_X5_checkPerson : GoodIn wsX5_project wsX5_checkPerson := goodIn_ca (goodIn_r _ [11, 12, 13] (by decide +kernel) (by decide +kernel)) (goodIn_sub (fun _ h => List.mem_cons_of_mem _ (List.mem_append_right _ h)) (by decide +kernel))
set_option maxRecDepth 20000 in
theorem gX5_project_X5_checkPerson : GoodIn wsX5_project (va_wsS RX5 29 yX5_checkPerson wsX5_checkPerson) := goodIn_app (goodIn_of _ (by decide +kernel)) ggX5_project_X5_checkPerson
set_option maxRecDepth 20000 in
theorem ggX5_project_X5_patternAt : GoodIn wsX5_project wsX5_patternAt := goodIn_ca (goodIn_r _ [17, 12, 13, 18, 19, 20, 21, 22, 23, 24, 25, 26, 27, 28, 29, 30, 31, 32, 33, 34, 35, 36, 37, 38, 39, 40, 41, 42, 124, 125, 126, 127, 128, 137, 138, 139] (by decide +kernel) (by decide +kernel)) (goodIn_sub (fun _ h => List.mem_cons_of_mem _ (List.mem_append_right _ h)) (by decide +kernel))
set_option maxRecDepth 20000 in
theorem gX5_project_X5_patternAt : GoodIn wsX5_project (wsV RX5 50 RX5 yX5_patternAt wsX5_patternAt) := goodIn_app (goodIn_of _ (by decide +kernel)) ggX5_project_X5_patternAt
set_option maxRecDepth 20000 in
theorem ggX5_project_X5_lotAt : GoodIn wsX5_project wsX5_lotAt := goodIn_ca (goodIn_r _ [46, 12, 13, 47, 48, 20, 21, 22, 23, 24, 25, 26, 27, 28, 29, 30, 31, 32, 33, 34, 35, 36, 37, 38, 39, 40, 41, 42, 124, 125, 126, 127, 128, 137, 138, 139] (by decide +kernel) (by decide +kernel)) (goodIn_sub (fun _ h => List.mem_cons_of_mem _ (List.mem_append_right _ h)) (by decide +kernel))
set_option maxRecDepth 20000 in
theorem gX5_project_X5_lotAt : GoodIn wsX5_project (wsV RX5 182 RX5 yX5_lotAt wsX5_lotAt) := goodIn_app (goodIn_of _ (by decide +kernel)) ggX5_project_X5_lotAt
set_option maxRecDepth 20000 in
theorem ggX5_project_Jx4a65c_size_8abf5 : GoodIn wsX5_project wsJx4a65c_size_8abf5 := goodIn_r _ [24, 25, 137, 138, 139] (by decide +kernel) (by decide +kernel)
set_option maxRecDepth 20000 in
theorem gX5_project_Jx4a65c_size_8abf5 : GoodIn wsX5_project (wsV RX5 173 RJx4a65c yJx4a65c_size_8abf5 wsJx4a65c_size_8abf5) := goodIn_app (goodIn_of _ (by decide +kernel)) ggX5_project_Jx4a65c_size_8abf5
set_option maxRecDepth 20000 in
theorem ggX5_project_X2_isPublished : GoodIn wsX5_project wsX2_isPublished := goodIn_r _ [53, 54, 140, 141, 142, 143, 144, 145, 146, 147, 148] (by decide +kernel) (by decide +kernel)
set_option maxRecDepth 20000 in
theorem gX5_project_X2_isPublished : GoodIn wsX5_project (wsV RX5 61 RX2 yX2_isPublished wsX2_isPublished) := goodIn_app (goodIn_of _ (by decide +kernel)) ggX5_project_X2_isPublished
set_option maxRecDepth 20000 in
theorem ggX5_project_X2_mayBeKnittedBy : GoodIn wsX5_project wsX2_mayBeKnittedBy := goodIn_r _ [58, 59, 60, 140, 141, 142, 143, 144, 145, 146, 147, 148] (by decide +kernel) (by decide +kernel)
set_option maxRecDepth 20000 in
theorem gX5_project_X2_mayBeKnittedBy : GoodIn wsX5_project (wsV RX5 158 RX2 yX2_mayBeKnittedBy wsX2_mayBeKnittedBy) := goodIn_app (goodIn_of _ (by decide +kernel)) ggX5_project_X2_mayBeKnittedBy
set_option maxRecDepth 20000 in
theorem ggX5_project_X4_init : GoodIn wsX5_project wsX4_init := goodIn_r _ [63, 64, 65, 66, 67, 68, 69, 70, 133, 134, 135, 136] (by decide +kernel) (by decide +kernel)
set_option maxRecDepth 20000 in
theorem gX5_project_X4_init : GoodIn wsX5_project (wsX4_init) := ggX5_project_X4_init
set_option maxRecDepth 20000 in
theorem ggX5_project_Jx4a65c_add_9ea2d : GoodIn wsX5_project wsJx4a65c_add_9ea2d := goodIn_r _ [74, 75, 76, 42, 25, 77, 78, 79, 23, 80, 81, 82, 83, 84, 85, 86, 87, 88, 89, 90, 91, 92, 93, 94, 95, 96, 97, 98, 99, 100, 101, 102, 103, 104, 105, 106, 107, 108, 109, 110, 111, 112, 113, 114, 115, 116, 117, 118, 119, 120, 121, 122, 123, 137, 138, 139] (by decide +kernel) (by decide +kernel)
set_option maxRecDepth 20000 in
theorem gX5_project_Jx4a65c_add_9ea2d : GoodIn wsX5_project (wsV RX5 136 RJx4a65c yJx4a65c_add_9ea2d wsJx4a65c_add_9ea2d) := goodIn_app (goodIn_of _ (by decide +kernel)) ggX5_project_Jx4a65c_add_9ea2d
theorem dX5_project_0 : decode cX5_project 0 = .ok (.iload_n 1, 1) := by decide +kernel
theorem dX5_project_1 : decode cX5_project 1 = .ok (.invokestatic 29, 3) := by decide +kernel
theorem dX5_project_4 : decode cX5_project 4 = .ok (.aload_n 0, 1) := by decide +kernel
theorem dX5_project_5 : decode cX5_project 5 = .ok (.iload_n 2, 1) := by decide +kernel
theorem dX5_project_6 : decode cX5_project 6 = .ok (.invokevirtual 50, 3) := by decide +kernel
theorem dX5_project_9 : decode cX5_project 9 = .ok (.astore 4, 2) := by decide +kernel
theorem dX5_project_11 : decode cX5_project 11 = .ok (.aload_n 0, 1) := by decide +kernel
theorem dX5_project_12 : decode cX5_project 12 = .ok (.iload_n 3, 1) := by decide +kernel
theorem dX5_project_13 : decode cX5_project 13 = .ok (.invokevirtual 182, 3) := by decide +kernel
theorem dX5_project_16 : decode cX5_project 16 = .ok (.astore 5, 2) := by decide +kernel
theorem dX5_project_18 : decode cX5_project 18 = .ok (.aload_n 0, 1) := by decide +kernel
theorem dX5_project_19 : decode cX5_project 19 = .ok (.getfield 22, 3) := by decide +kernel
theorem dX5_project_22 : decode cX5_project 22 = .ok (.invokevirtual 173, 3) := by decide +kernel
theorem dX5_project_25 : decode cX5_project 25 = .ok (.istore 6, 2) := by decide +kernel
theorem dX5_project_27 : decode cX5_project 27 = .ok (.aload 4, 2) := by decide +kernel
theorem dX5_project_29 : decode cX5_project 29 = .ok (.invokevirtual 61, 3) := by decide +kernel
theorem dX5_project_32 : decode cX5_project 32 = .ok (.ifCond .eq 28, 3) := by decide +kernel
theorem dX5_project_35 : decode cX5_project 35 = .ok (.aload 4, 2) := by decide +kernel
theorem dX5_project_37 : decode cX5_project 37 = .ok (.iload_n 1, 1) := by decide +kernel
theorem dX5_project_38 : decode cX5_project 38 = .ok (.invokevirtual 158, 3) := by decide +kernel
theorem dX5_project_41 : decode cX5_project 41 = .ok (.ifCond .eq 19, 3) := by decide +kernel
theorem dX5_project_44 : decode cX5_project 44 = .ok (.aload 5, 2) := by decide +kernel
theorem dX5_project_46 : decode cX5_project 46 = .ok (.getfield 186, 3) := by decide +kernel
theorem dX5_project_49 : decode cX5_project 49 = .ok (.iload_n 1, 1) := by decide +kernel
theorem dX5_project_50 : decode cX5_project 50 = .ok (.if_icmp .ne 10, 3) := by decide +kernel
theorem dX5_project_53 : decode cX5_project 53 = .ok (.iload 6, 2) := by decide +kernel
theorem dX5_project_55 : decode cX5_project 55 = .ok (.bipush 12, 2) := by decide +kernel
theorem dX5_project_57 : decode cX5_project 57 = .ok (.if_icmp .lt 13, 3) := by decide +kernel
theorem dX5_project_60 : decode cX5_project 60 = .ok (.new 69, 3) := by decide +kernel
theorem dX5_project_63 : decode cX5_project 63 = .ok (.dup, 1) := by decide +kernel
theorem dX5_project_64 : decode cX5_project 64 = .ok (.ldc 194, 2) := by decide +kernel
theorem dX5_project_66 : decode cX5_project 66 = .ok (.invokespecial 73, 3) := by decide +kernel
theorem dX5_project_69 : decode cX5_project 69 = .ok (.athrow, 1) := by decide +kernel
theorem dX5_project_70 : decode cX5_project 70 = .ok (.aload_n 0, 1) := by decide +kernel
theorem dX5_project_71 : decode cX5_project 71 = .ok (.getfield 22, 3) := by decide +kernel
theorem dX5_project_74 : decode cX5_project 74 = .ok (.new 196, 3) := by decide +kernel
theorem dX5_project_77 : decode cX5_project 77 = .ok (.dup, 1) := by decide +kernel
theorem dX5_project_78 : decode cX5_project 78 = .ok (.iload_n 1, 1) := by decide +kernel
theorem dX5_project_79 : decode cX5_project 79 = .ok (.aload 4, 2) := by decide +kernel
theorem dX5_project_81 : decode cX5_project 81 = .ok (.aload 5, 2) := by decide +kernel
theorem dX5_project_83 : decode cX5_project 83 = .ok (.invokespecial 198, 3) := by decide +kernel
theorem dX5_project_86 : decode cX5_project 86 = .ok (.invokevirtual 136, 3) := by decide +kernel
theorem dX5_project_89 : decode cX5_project 89 = .ok (.pop, 1) := by decide +kernel
theorem dX5_project_90 : decode cX5_project 90 = .ok (.iload 6, 2) := by decide +kernel
theorem dX5_project_92 : decode cX5_project 92 = .ok (.ireturn, 1) := by decide +kernel
set_option maxRecDepth 20000 in
theorem ggX5_take_X5_projectAt : GoodIn wsX5_take wsX5_projectAt := goodIn_ca (goodIn_r _ [11, 12, 13, 14, 15, 16, 17, 18, 19, 20, 21, 22, 23, 24, 25, 26, 27, 28, 29, 30, 31, 32, 33, 34, 35, 36, 37, 38, 53, 54, 55, 56, 57, 58, 59, 60] (by decide +kernel) (by decide +kernel)) (goodIn_sub (fun _ h => List.mem_cons_of_mem _ (List.mem_append_right _ h)) (by decide +kernel))
set_option maxRecDepth 20000 in
theorem gX5_take_X5_projectAt : GoodIn wsX5_take (wsV RX5 201 RX5 yX5_projectAt wsX5_projectAt) := goodIn_app (goodIn_of _ (by decide +kernel)) ggX5_take_X5_projectAt
set_option maxRecDepth 20000 in
theorem ggX5_take_X5_lotAt : GoodIn wsX5_take wsX5_lotAt := goodIn_ca (goodIn_r _ [42, 12, 13, 43, 44, 16, 17, 18, 19, 20, 21, 22, 23, 24, 25, 26, 27, 28, 29, 30, 31, 32, 33, 34, 35, 36, 37, 38, 53, 54, 55, 56, 57, 58, 59, 60] (by decide +kernel) (by decide +kernel)) (goodIn_sub (fun _ h => List.mem_cons_of_mem _ (List.mem_append_right _ h)) (by decide +kernel))
set_option maxRecDepth 20000 in
theorem gX5_take_X5_lotAt : GoodIn wsX5_take (wsV RX5 182 RX5 yX5_lotAt wsX5_lotAt) := goodIn_app (goodIn_of _ (by decide +kernel)) ggX5_take_X5_lotAt
theorem dX5_take_0 : decode cX5_take 0 = .ok (.aload_n 0, 1) := by decide +kernel
theorem dX5_take_1 : decode cX5_take 1 = .ok (.iload_n 1, 1) := by decide +kernel
theorem dX5_take_2 : decode cX5_take 2 = .ok (.invokevirtual 201, 3) := by decide +kernel
theorem dX5_take_5 : decode cX5_take 5 = .ok (.astore_n 3, 1) := by decide +kernel
theorem dX5_take_6 : decode cX5_take 6 = .ok (.aload_n 0, 1) := by decide +kernel
theorem dX5_take_7 : decode cX5_take 7 = .ok (.iload_n 2, 1) := by decide +kernel
theorem dX5_take_8 : decode cX5_take 8 = .ok (.invokevirtual 182, 3) := by decide +kernel
theorem dX5_take_11 : decode cX5_take 11 = .ok (.astore 4, 2) := by decide +kernel
theorem dX5_take_13 : decode cX5_take 13 = .ok (.aload 4, 2) := by decide +kernel
theorem dX5_take_15 : decode cX5_take 15 = .ok (.getfield 186, 3) := by decide +kernel
theorem dX5_take_18 : decode cX5_take 18 = .ok (.aload_n 3, 1) := by decide +kernel
theorem dX5_take_19 : decode cX5_take 19 = .ok (.getfield 205, 3) := by decide +kernel
theorem dX5_take_22 : decode cX5_take 22 = .ok (.if_icmp .eq 13, 3) := by decide +kernel
theorem dX5_take_25 : decode cX5_take 25 = .ok (.new 69, 3) := by decide +kernel
theorem dX5_take_28 : decode cX5_take 28 = .ok (.dup, 1) := by decide +kernel
theorem dX5_take_29 : decode cX5_take 29 = .ok (.ldc 206, 2) := by decide +kernel
theorem dX5_take_31 : decode cX5_take 31 = .ok (.invokespecial 73, 3) := by decide +kernel
theorem dX5_take_34 : decode cX5_take 34 = .ok (.athrow, 1) := by decide +kernel
theorem dX5_take_35 : decode cX5_take 35 = .ok (.aload_n 3, 1) := by decide +kernel
theorem dX5_take_36 : decode cX5_take 36 = .ok (.getfield 208, 3) := by decide +kernel
theorem dX5_take_39 : decode cX5_take 39 = .ok (.getfield 212, 3) := by decide +kernel
theorem dX5_take_42 : decode cX5_take 42 = .ok (.istore 5, 2) := by decide +kernel
theorem dX5_take_44 : decode cX5_take 44 = .ok (.aload_n 3, 1) := by decide +kernel
theorem dX5_take_45 : decode cX5_take 45 = .ok (.aload 4, 2) := by decide +kernel
theorem dX5_take_47 : decode cX5_take 47 = .ok (.putfield 208, 3) := by decide +kernel
theorem dX5_take_50 : decode cX5_take 50 = .ok (.iload 5, 2) := by decide +kernel
theorem dX5_take_52 : decode cX5_take 52 = .ok (.ireturn, 1) := by decide +kernel
set_option maxRecDepth 20000 in
theorem ggX5_knit_X5_projectAt : GoodIn wsX5_knit wsX5_projectAt := goodIn_ca (goodIn_r _ [5, 6, 7, 8, 9, 10, 11, 12, 13, 14, 15, 16, 17, 18, 19, 20, 21, 22, 23, 24, 25, 26, 27, 28, 29, 30, 31, 32, 66, 67, 68, 69, 70, 71, 72, 73] (by decide +kernel) (by decide +kernel)) (goodIn_sub (fun _ h => List.mem_cons_of_mem _ (List.mem_append_left _ (List.mem_append_right _ h))) (by decide +kernel))
set_option maxRecDepth 20000 in
theorem gX5_knit_X5_projectAt : GoodIn wsX5_knit (wsV RX5 201 RX5 yX5_projectAt wsX5_projectAt) := goodIn_app (goodIn_of _ (by decide +kernel)) ggX5_knit_X5_projectAt
set_option maxRecDepth 20000 in
theorem ggX5_knit_X5_checkRange : GoodIn wsX5_knit wsX5_checkRange := goodIn_ca (goodIn_r _ [35, 36, 37] (by decide +kernel) (by decide +kernel)) (goodIn_sub (fun _ h => List.mem_cons_of_mem _ (List.mem_append_right _ h)) (by decide +kernel))
set_option maxRecDepth 20000 in
theorem gX5_knit_X5_checkRange : GoodIn wsX5_knit (va_wsS RX5 33 yX5_checkRange wsX5_checkRange) := goodIn_app (goodIn_of _ (by decide +kernel)) ggX5_knit_X5_checkRange
set_option maxRecDepth 20000 in
theorem ggX5_knit_X4_knitUpTo : GoodIn wsX5_knit wsX4_knitUpTo := goodIn_r _ [42, 43, 44, 45, 46, 47, 48, 41, 49, 50, 51, 52, 53, 54, 55, 56, 57, 58, 59, 60, 61, 62, 63, 64, 65, 74, 75, 76, 77, 78, 79, 80, 81, 82, 83, 84, 85, 86, 87, 88, 89, 90, 91, 92, 93, 94] (by decide +kernel) (by decide +kernel)
set_option maxRecDepth 20000 in
theorem gX5_knit_X4_knitUpTo : GoodIn wsX5_knit (wsV RX5 213 RX4 yX4_knitUpTo wsX4_knitUpTo) := goodIn_app (goodIn_of _ (by decide +kernel)) ggX5_knit_X4_knitUpTo
theorem dX5_knit_0 : decode cX5_knit 0 = .ok (.aload_n 0, 1) := by decide +kernel
theorem dX5_knit_1 : decode cX5_knit 1 = .ok (.iload_n 1, 1) := by decide +kernel
theorem dX5_knit_2 : decode cX5_knit 2 = .ok (.invokevirtual 201, 3) := by decide +kernel
theorem dX5_knit_5 : decode cX5_knit 5 = .ok (.astore_n 3, 1) := by decide +kernel
theorem dX5_knit_6 : decode cX5_knit 6 = .ok (.iload_n 2, 1) := by decide +kernel
theorem dX5_knit_7 : decode cX5_knit 7 = .ok (.iconst 1, 1) := by decide +kernel
theorem dX5_knit_8 : decode cX5_knit 8 = .ok (.bipush 40, 2) := by decide +kernel
theorem dX5_knit_10 : decode cX5_knit 10 = .ok (.invokestatic 33, 3) := by decide +kernel
theorem dX5_knit_13 : decode cX5_knit 13 = .ok (.aload_n 3, 1) := by decide +kernel
theorem dX5_knit_14 : decode cX5_knit 14 = .ok (.iload_n 2, 1) := by decide +kernel
theorem dX5_knit_15 : decode cX5_knit 15 = .ok (.invokevirtual 213, 3) := by decide +kernel
theorem dX5_knit_18 : decode cX5_knit 18 = .ok (.ireturn, 1) := by decide +kernel
set_option maxRecDepth 20000 in
theorem ggX5_progress_X5_projectAt : GoodIn wsX5_progress wsX5_projectAt := goodIn_ca (goodIn_r _ [6, 7, 8, 9, 10, 11, 12, 13, 14, 15, 16, 17, 18, 19, 20, 21, 22, 23, 24, 25, 26, 27, 28, 29, 30, 31, 32, 33, 38, 39, 40, 41, 42, 43, 44, 45] (by decide +kernel) (by decide +kernel)) (goodIn_sub (fun _ h => List.mem_cons_of_mem _ (List.mem_append_right _ h)) (by decide +kernel))
set_option maxRecDepth 20000 in
theorem gX5_progress_X5_projectAt : GoodIn wsX5_progress (wsV RX5 201 RX5 yX5_projectAt wsX5_projectAt) := goodIn_app (goodIn_of _ (by decide +kernel)) ggX5_progress_X5_projectAt
theorem dX5_progress_0 : decode cX5_progress 0 = .ok (.aload_n 0, 1) := by decide +kernel
theorem dX5_progress_1 : decode cX5_progress 1 = .ok (.iload_n 1, 1) := by decide +kernel
theorem dX5_progress_2 : decode cX5_progress 2 = .ok (.invokevirtual 201, 3) := by decide +kernel
theorem dX5_progress_5 : decode cX5_progress 5 = .ok (.getfield 216, 3) := by decide +kernel
theorem dX5_progress_8 : decode cX5_progress 8 = .ok (.ireturn, 1) := by decide +kernel
set_option maxRecDepth 20000 in
theorem ggX5_patternAt_Jx4a65c_size_8abf5 : GoodIn wsX5_patternAt wsJx4a65c_size_8abf5 := goodIn_r _ [9, 10, 33, 34, 35] (by decide +kernel) (by decide +kernel)
set_option maxRecDepth 20000 in
theorem gX5_patternAt_Jx4a65c_size_8abf5 : GoodIn wsX5_patternAt (wsV RX5 173 RJx4a65c yJx4a65c_size_8abf5 wsJx4a65c_size_8abf5) := goodIn_app (goodIn_of _ (by decide +kernel)) ggX5_patternAt_Jx4a65c_size_8abf5
set_option maxRecDepth 20000 in
theorem ggX5_patternAt_Jx4a65c_get_915e3 : GoodIn wsX5_patternAt wsJx4a65c_get_915e3 := goodIn_r _ [14, 10, 15, 16, 17, 18, 19, 20, 21, 22, 23, 24, 25, 8, 26, 27, 33, 34, 35] (by decide +kernel) (by decide +kernel)
set_option maxRecDepth 20000 in
theorem gX5_patternAt_Jx4a65c_get_915e3 : GoodIn wsX5_patternAt (wsV RX5 224 RJx4a65c yJx4a65c_get_915e3 wsJx4a65c_get_915e3) := goodIn_app (goodIn_of _ (by decide +kernel)) ggX5_patternAt_Jx4a65c_get_915e3
theorem dX5_patternAt_0 : decode cX5_patternAt 0 = .ok (.iload_n 1, 1) := by decide +kernel
theorem dX5_patternAt_1 : decode cX5_patternAt 1 = .ok (.ifCond .lt 14, 3) := by decide +kernel
theorem dX5_patternAt_4 : decode cX5_patternAt 4 = .ok (.iload_n 1, 1) := by decide +kernel
theorem dX5_patternAt_5 : decode cX5_patternAt 5 = .ok (.aload_n 0, 1) := by decide +kernel
theorem dX5_patternAt_6 : decode cX5_patternAt 6 = .ok (.getfield 10, 3) := by decide +kernel
theorem dX5_patternAt_9 : decode cX5_patternAt 9 = .ok (.invokevirtual 173, 3) := by decide +kernel
theorem dX5_patternAt_12 : decode cX5_patternAt 12 = .ok (.if_icmp .lt 13, 3) := by decide +kernel
theorem dX5_patternAt_15 : decode cX5_patternAt 15 = .ok (.new 219, 3) := by decide +kernel
theorem dX5_patternAt_18 : decode cX5_patternAt 18 = .ok (.dup, 1) := by decide +kernel
theorem dX5_patternAt_19 : decode cX5_patternAt 19 = .ok (.ldc 221, 2) := by decide +kernel
theorem dX5_patternAt_21 : decode cX5_patternAt 21 = .ok (.invokespecial 223, 3) := by decide +kernel
theorem dX5_patternAt_24 : decode cX5_patternAt 24 = .ok (.athrow, 1) := by decide +kernel
theorem dX5_patternAt_25 : decode cX5_patternAt 25 = .ok (.aload_n 0, 1) := by decide +kernel
theorem dX5_patternAt_26 : decode cX5_patternAt 26 = .ok (.getfield 10, 3) := by decide +kernel
theorem dX5_patternAt_29 : decode cX5_patternAt 29 = .ok (.iload_n 1, 1) := by decide +kernel
theorem dX5_patternAt_30 : decode cX5_patternAt 30 = .ok (.invokevirtual 224, 3) := by decide +kernel
theorem dX5_patternAt_33 : decode cX5_patternAt 33 = .ok (.checkcast 45, 3) := by decide +kernel
theorem dX5_patternAt_36 : decode cX5_patternAt 36 = .ok (.areturn, 1) := by decide +kernel
set_option maxRecDepth 20000 in
theorem ggX5_lotAt_Jx4a65c_size_8abf5 : GoodIn wsX5_lotAt wsJx4a65c_size_8abf5 := goodIn_r _ [9, 10, 33, 34, 35] (by decide +kernel) (by decide +kernel)
set_option maxRecDepth 20000 in
theorem gX5_lotAt_Jx4a65c_size_8abf5 : GoodIn wsX5_lotAt (wsV RX5 173 RJx4a65c yJx4a65c_size_8abf5 wsJx4a65c_size_8abf5) := goodIn_app (goodIn_of _ (by decide +kernel)) ggX5_lotAt_Jx4a65c_size_8abf5
set_option maxRecDepth 20000 in
theorem ggX5_lotAt_Jx4a65c_get_915e3 : GoodIn wsX5_lotAt wsJx4a65c_get_915e3 := goodIn_r _ [14, 10, 15, 16, 17, 18, 19, 20, 21, 22, 23, 24, 25, 8, 26, 27, 33, 34, 35] (by decide +kernel) (by decide +kernel)
set_option maxRecDepth 20000 in
theorem gX5_lotAt_Jx4a65c_get_915e3 : GoodIn wsX5_lotAt (wsV RX5 224 RJx4a65c yJx4a65c_get_915e3 wsJx4a65c_get_915e3) := goodIn_app (goodIn_of _ (by decide +kernel)) ggX5_lotAt_Jx4a65c_get_915e3
theorem dX5_lotAt_0 : decode cX5_lotAt 0 = .ok (.iload_n 1, 1) := by decide +kernel
theorem dX5_lotAt_1 : decode cX5_lotAt 1 = .ok (.ifCond .lt 14, 3) := by decide +kernel
theorem dX5_lotAt_4 : decode cX5_lotAt 4 = .ok (.iload_n 1, 1) := by decide +kernel
theorem dX5_lotAt_5 : decode cX5_lotAt 5 = .ok (.aload_n 0, 1) := by decide +kernel
theorem dX5_lotAt_6 : decode cX5_lotAt 6 = .ok (.getfield 19, 3) := by decide +kernel
theorem dX5_lotAt_9 : decode cX5_lotAt 9 = .ok (.invokevirtual 173, 3) := by decide +kernel
theorem dX5_lotAt_12 : decode cX5_lotAt 12 = .ok (.if_icmp .lt 13, 3) := by decide +kernel
theorem dX5_lotAt_15 : decode cX5_lotAt 15 = .ok (.new 219, 3) := by decide +kernel
theorem dX5_lotAt_18 : decode cX5_lotAt 18 = .ok (.dup, 1) := by decide +kernel
theorem dX5_lotAt_19 : decode cX5_lotAt 19 = .ok (.ldc 228, 2) := by decide +kernel
theorem dX5_lotAt_21 : decode cX5_lotAt 21 = .ok (.invokespecial 223, 3) := by decide +kernel
theorem dX5_lotAt_24 : decode cX5_lotAt 24 = .ok (.athrow, 1) := by decide +kernel
theorem dX5_lotAt_25 : decode cX5_lotAt 25 = .ok (.aload_n 0, 1) := by decide +kernel
theorem dX5_lotAt_26 : decode cX5_lotAt 26 = .ok (.getfield 19, 3) := by decide +kernel
theorem dX5_lotAt_29 : decode cX5_lotAt 29 = .ok (.iload_n 1, 1) := by decide +kernel
theorem dX5_lotAt_30 : decode cX5_lotAt 30 = .ok (.invokevirtual 224, 3) := by decide +kernel
theorem dX5_lotAt_33 : decode cX5_lotAt 33 = .ok (.checkcast 178, 3) := by decide +kernel
theorem dX5_lotAt_36 : decode cX5_lotAt 36 = .ok (.areturn, 1) := by decide +kernel
set_option maxRecDepth 20000 in
theorem ggX5_projectAt_Jx4a65c_size_8abf5 : GoodIn wsX5_projectAt wsJx4a65c_size_8abf5 := goodIn_r _ [9, 10, 33, 34, 35] (by decide +kernel) (by decide +kernel)
set_option maxRecDepth 20000 in
theorem gX5_projectAt_Jx4a65c_size_8abf5 : GoodIn wsX5_projectAt (wsV RX5 173 RJx4a65c yJx4a65c_size_8abf5 wsJx4a65c_size_8abf5) := goodIn_app (goodIn_of _ (by decide +kernel)) ggX5_projectAt_Jx4a65c_size_8abf5
set_option maxRecDepth 20000 in
theorem ggX5_projectAt_Jx4a65c_get_915e3 : GoodIn wsX5_projectAt wsJx4a65c_get_915e3 := goodIn_r _ [14, 10, 15, 16, 17, 18, 19, 20, 21, 22, 23, 24, 25, 8, 26, 27, 33, 34, 35] (by decide +kernel) (by decide +kernel)
set_option maxRecDepth 20000 in
theorem gX5_projectAt_Jx4a65c_get_915e3 : GoodIn wsX5_projectAt (wsV RX5 224 RJx4a65c yJx4a65c_get_915e3 wsJx4a65c_get_915e3) := goodIn_app (goodIn_of _ (by decide +kernel)) ggX5_projectAt_Jx4a65c_get_915e3
theorem dX5_projectAt_0 : decode cX5_projectAt 0 = .ok (.iload_n 1, 1) := by decide +kernel
theorem dX5_projectAt_1 : decode cX5_projectAt 1 = .ok (.ifCond .lt 14, 3) := by decide +kernel
theorem dX5_projectAt_4 : decode cX5_projectAt 4 = .ok (.iload_n 1, 1) := by decide +kernel
theorem dX5_projectAt_5 : decode cX5_projectAt 5 = .ok (.aload_n 0, 1) := by decide +kernel
theorem dX5_projectAt_6 : decode cX5_projectAt 6 = .ok (.getfield 22, 3) := by decide +kernel
theorem dX5_projectAt_9 : decode cX5_projectAt 9 = .ok (.invokevirtual 173, 3) := by decide +kernel
theorem dX5_projectAt_12 : decode cX5_projectAt 12 = .ok (.if_icmp .lt 13, 3) := by decide +kernel
theorem dX5_projectAt_15 : decode cX5_projectAt 15 = .ok (.new 219, 3) := by decide +kernel
theorem dX5_projectAt_18 : decode cX5_projectAt 18 = .ok (.dup, 1) := by decide +kernel
theorem dX5_projectAt_19 : decode cX5_projectAt 19 = .ok (.ldc 230, 2) := by decide +kernel
theorem dX5_projectAt_21 : decode cX5_projectAt 21 = .ok (.invokespecial 223, 3) := by decide +kernel
theorem dX5_projectAt_24 : decode cX5_projectAt 24 = .ok (.athrow, 1) := by decide +kernel
theorem dX5_projectAt_25 : decode cX5_projectAt 25 = .ok (.aload_n 0, 1) := by decide +kernel
theorem dX5_projectAt_26 : decode cX5_projectAt 26 = .ok (.getfield 22, 3) := by decide +kernel
theorem dX5_projectAt_29 : decode cX5_projectAt 29 = .ok (.iload_n 1, 1) := by decide +kernel
theorem dX5_projectAt_30 : decode cX5_projectAt 30 = .ok (.invokevirtual 224, 3) := by decide +kernel
theorem dX5_projectAt_33 : decode cX5_projectAt 33 = .ok (.checkcast 196, 3) := by decide +kernel
theorem dX5_projectAt_36 : decode cX5_projectAt 36 = .ok (.areturn, 1) := by decide +kernel
set_option maxRecDepth 20000 in
theorem ggX5_checkRoomForPattern_Jx4a65c_size_8abf5 : GoodIn wsX5_checkRoomForPattern wsJx4a65c_size_8abf5 := goodIn_r _ [8, 9, 15, 16, 17] (by decide +kernel) (by decide +kernel)
set_option maxRecDepth 20000 in
theorem gX5_checkRoomForPattern_Jx4a65c_size_8abf5 : GoodIn wsX5_checkRoomForPattern (wsV RX5 173 RJx4a65c yJx4a65c_size_8abf5 wsJx4a65c_size_8abf5) := goodIn_app (goodIn_of _ (by decide +kernel)) ggX5_checkRoomForPattern_Jx4a65c_size_8abf5
theorem dX5_checkRoomForPattern_0 : decode cX5_checkRoomForPattern 0 = .ok (.aload_n 0, 1) := by decide +kernel
theorem dX5_checkRoomForPattern_1 : decode cX5_checkRoomForPattern 1 = .ok (.getfield 10, 3) := by decide +kernel
theorem dX5_checkRoomForPattern_4 : decode cX5_checkRoomForPattern 4 = .ok (.invokevirtual 173, 3) := by decide +kernel
theorem dX5_checkRoomForPattern_7 : decode cX5_checkRoomForPattern 7 = .ok (.bipush 16, 2) := by decide +kernel
theorem dX5_checkRoomForPattern_9 : decode cX5_checkRoomForPattern 9 = .ok (.if_icmp .lt 13, 3) := by decide +kernel
theorem dX5_checkRoomForPattern_12 : decode cX5_checkRoomForPattern 12 = .ok (.new 69, 3) := by decide +kernel
theorem dX5_checkRoomForPattern_15 : decode cX5_checkRoomForPattern 15 = .ok (.dup, 1) := by decide +kernel
theorem dX5_checkRoomForPattern_16 : decode cX5_checkRoomForPattern 16 = .ok (.ldc 232, 2) := by decide +kernel
theorem dX5_checkRoomForPattern_18 : decode cX5_checkRoomForPattern 18 = .ok (.invokespecial 73, 3) := by decide +kernel
theorem dX5_checkRoomForPattern_21 : decode cX5_checkRoomForPattern 21 = .ok (.athrow, 1) := by decide +kernel
theorem dX5_checkRoomForPattern_22 : decode cX5_checkRoomForPattern 22 = .ok (.return_, 1) := by decide +kernel
set_option maxRecDepth 20000 in
theorem ggX5_addPattern_Jx4a65c_size_8abf5 : GoodIn wsX5_addPattern wsJx4a65c_size_8abf5 := goodIn_r _ [9, 10, 120, 121, 122] (by decide +kernel) (by decide +kernel)
set_option maxRecDepth 20000 in
theorem gX5_addPattern_Jx4a65c_size_8abf5 : GoodIn wsX5_addPattern (wsV RX5 173 RJx4a65c yJx4a65c_size_8abf5 wsJx4a65c_size_8abf5) := goodIn_app (goodIn_of _ (by decide +kernel)) ggX5_addPattern_Jx4a65c_size_8abf5
set_option maxRecDepth 20000 in
theorem ggX5_addPattern_X2_init : GoodIn wsX5_addPattern wsX2_init := goodIn_r _ [13, 14, 15, 16, 17, 18, 19, 20, 21, 22, 23, 24, 25, 26, 27, 28, 29, 30, 31, 32, 33, 34, 35, 36, 37, 38, 39, 40, 41, 42, 43, 44, 45, 46, 47, 48, 49, 50, 51, 106, 107, 108, 109, 110, 111, 112, 113, 114, 123, 124, 125, 126, 127, 128, 129, 130, 131, 132] (by decide +kernel) (by decide +kernel)
set_option maxRecDepth 20000 in
theorem gX5_addPattern_X2_init : GoodIn wsX5_addPattern (wsX2_init) := ggX5_addPattern_X2_init
set_option maxRecDepth 20000 in
theorem ggX5_addPattern_Jx4a65c_add_9ea2d : GoodIn wsX5_addPattern wsJx4a65c_add_9ea2d := goodIn_r _ [55, 56, 57, 58, 10, 59, 60, 61, 8, 62, 63, 64, 65, 66, 67, 68, 69, 70, 71, 72, 73, 74, 75, 76, 77, 78, 79, 80, 81, 82, 83, 84, 85, 86, 87, 88, 89, 90, 91, 92, 93, 94, 95, 96, 97, 98, 99, 100, 101, 102, 103, 104, 105, 120, 121, 122] (by decide +kernel) (by decide +kernel)
set_option maxRecDepth 20000 in
theorem gX5_addPattern_Jx4a65c_add_9ea2d : GoodIn wsX5_addPattern (wsV RX5 136 RJx4a65c yJx4a65c_add_9ea2d wsJx4a65c_add_9ea2d) := goodIn_app (goodIn_of _ (by decide +kernel)) ggX5_addPattern_Jx4a65c_add_9ea2d
theorem dX5_addPattern_0 : decode cX5_addPattern 0 = .ok (.new 45, 3) := by decide +kernel
theorem dX5_addPattern_3 : decode cX5_addPattern 3 = .ok (.dup, 1) := by decide +kernel
theorem dX5_addPattern_4 : decode cX5_addPattern 4 = .ok (.aload_n 0, 1) := by decide +kernel
theorem dX5_addPattern_5 : decode cX5_addPattern 5 = .ok (.getfield 10, 3) := by decide +kernel
theorem dX5_addPattern_8 : decode cX5_addPattern 8 = .ok (.invokevirtual 173, 3) := by decide +kernel
theorem dX5_addPattern_11 : decode cX5_addPattern 11 = .ok (.iload_n 1, 1) := by decide +kernel
theorem dX5_addPattern_12 : decode cX5_addPattern 12 = .ok (.iload_n 2, 1) := by decide +kernel
theorem dX5_addPattern_13 : decode cX5_addPattern 13 = .ok (.iload_n 3, 1) := by decide +kernel
theorem dX5_addPattern_14 : decode cX5_addPattern 14 = .ok (.invokespecial 234, 3) := by decide +kernel
theorem dX5_addPattern_17 : decode cX5_addPattern 17 = .ok (.astore 4, 2) := by decide +kernel
theorem dX5_addPattern_19 : decode cX5_addPattern 19 = .ok (.aload_n 0, 1) := by decide +kernel
theorem dX5_addPattern_20 : decode cX5_addPattern 20 = .ok (.getfield 10, 3) := by decide +kernel
theorem dX5_addPattern_23 : decode cX5_addPattern 23 = .ok (.aload 4, 2) := by decide +kernel
theorem dX5_addPattern_25 : decode cX5_addPattern 25 = .ok (.invokevirtual 136, 3) := by decide +kernel
theorem dX5_addPattern_28 : decode cX5_addPattern 28 = .ok (.pop, 1) := by decide +kernel
theorem dX5_addPattern_29 : decode cX5_addPattern 29 = .ok (.aload 4, 2) := by decide +kernel
theorem dX5_addPattern_31 : decode cX5_addPattern 31 = .ok (.areturn, 1) := by decide +kernel
set_option maxRecDepth 20000 in
theorem ggX5_firstOfSameChart_Jx4a65c_size_8abf5 : GoodIn wsX5_firstOfSameChart wsJx4a65c_size_8abf5 := goodIn_r _ [8, 9, 48, 49, 50] (by decide +kernel) (by decide +kernel)
set_option maxRecDepth 20000 in
theorem gX5_firstOfSameChart_Jx4a65c_size_8abf5 : GoodIn wsX5_firstOfSameChart (wsV RX5 173 RJx4a65c yJx4a65c_size_8abf5 wsJx4a65c_size_8abf5) := goodIn_app (goodIn_of _ (by decide +kernel)) ggX5_firstOfSameChart_Jx4a65c_size_8abf5
set_option maxRecDepth 20000 in
theorem ggX5_firstOfSameChart_Jx4a65c_get_915e3 : GoodIn wsX5_firstOfSameChart wsJx4a65c_get_915e3 := goodIn_r _ [13, 9, 14, 15, 16, 17, 18, 19, 20, 21, 22, 23, 24, 7, 25, 26, 48, 49, 50] (by decide +kernel) (by decide +kernel)
set_option maxRecDepth 20000 in
theorem gX5_firstOfSameChart_Jx4a65c_get_915e3 : GoodIn wsX5_firstOfSameChart (wsV RX5 224 RJx4a65c yJx4a65c_get_915e3 wsJx4a65c_get_915e3) := goodIn_app (goodIn_of _ (by decide +kernel)) ggX5_firstOfSameChart_Jx4a65c_get_915e3
set_option maxRecDepth 20000 in
theorem ggX5_firstOfSameChart_X0_isSameAs : GoodIn wsX5_firstOfSameChart wsX0_isSameAs := goodIn_r _ [31, 32, 33, 51, 52, 53, 54] (by decide +kernel) (by decide +kernel)
set_option maxRecDepth 20000 in
theorem gX5_firstOfSameChart_X0_isSameAs : GoodIn wsX5_firstOfSameChart (wsV RX5 235 RX0 yX0_isSameAs wsX0_isSameAs) := goodIn_app (goodIn_of _ (by decide +kernel)) ggX5_firstOfSameChart_X0_isSameAs
theorem dX5_firstOfSameChart_0 : decode cX5_firstOfSameChart 0 = .ok (.iconst 0, 1) := by decide +kernel
theorem dX5_firstOfSameChart_1 : decode cX5_firstOfSameChart 1 = .ok (.istore_n 2, 1) := by decide +kernel
theorem dX5_firstOfSameChart_2 : decode cX5_firstOfSameChart 2 = .ok (.iload_n 2, 1) := by decide +kernel
theorem dX5_firstOfSameChart_3 : decode cX5_firstOfSameChart 3 = .ok (.aload_n 0, 1) := by decide +kernel
theorem dX5_firstOfSameChart_4 : decode cX5_firstOfSameChart 4 = .ok (.getfield 16, 3) := by decide +kernel
theorem dX5_firstOfSameChart_7 : decode cX5_firstOfSameChart 7 = .ok (.invokevirtual 173, 3) := by decide +kernel
theorem dX5_firstOfSameChart_10 : decode cX5_firstOfSameChart 10 = .ok (.if_icmp .ge 37, 3) := by decide +kernel
theorem dX5_firstOfSameChart_13 : decode cX5_firstOfSameChart 13 = .ok (.aload_n 0, 1) := by decide +kernel
theorem dX5_firstOfSameChart_14 : decode cX5_firstOfSameChart 14 = .ok (.getfield 16, 3) := by decide +kernel
theorem dX5_firstOfSameChart_17 : decode cX5_firstOfSameChart 17 = .ok (.iload_n 2, 1) := by decide +kernel
theorem dX5_firstOfSameChart_18 : decode cX5_firstOfSameChart 18 = .ok (.invokevirtual 224, 3) := by decide +kernel
theorem dX5_firstOfSameChart_21 : decode cX5_firstOfSameChart 21 = .ok (.checkcast 45, 3) := by decide +kernel
theorem dX5_firstOfSameChart_24 : decode cX5_firstOfSameChart 24 = .ok (.astore_n 3, 1) := by decide +kernel
theorem dX5_firstOfSameChart_25 : decode cX5_firstOfSameChart 25 = .ok (.aload_n 3, 1) := by decide +kernel
theorem dX5_firstOfSameChart_26 : decode cX5_firstOfSameChart 26 = .ok (.getfield 78, 3) := by decide +kernel
theorem dX5_firstOfSameChart_29 : decode cX5_firstOfSameChart 29 = .ok (.aload_n 1, 1) := by decide +kernel
theorem dX5_firstOfSameChart_30 : decode cX5_firstOfSameChart 30 = .ok (.getfield 78, 3) := by decide +kernel
theorem dX5_firstOfSameChart_33 : decode cX5_firstOfSameChart 33 = .ok (.invokevirtual 235, 3) := by decide +kernel
theorem dX5_firstOfSameChart_36 : decode cX5_firstOfSameChart 36 = .ok (.ifCond .eq 5, 3) := by decide +kernel
theorem dX5_firstOfSameChart_39 : decode cX5_firstOfSameChart 39 = .ok (.aload_n 3, 1) := by decide +kernel
theorem dX5_firstOfSameChart_40 : decode cX5_firstOfSameChart 40 = .ok (.areturn, 1) := by decide +kernel
theorem dX5_firstOfSameChart_41 : decode cX5_firstOfSameChart 41 = .ok (.iinc 2 1, 3) := by decide +kernel
theorem dX5_firstOfSameChart_44 : decode cX5_firstOfSameChart 44 = .ok (.goto (-42), 3) := by decide +kernel
theorem dX5_firstOfSameChart_47 : decode cX5_firstOfSameChart 47 = .ok (.aload_n 1, 1) := by decide +kernel
theorem dX5_firstOfSameChart_48 : decode cX5_firstOfSameChart 48 = .ok (.areturn, 1) := by decide +kernel
theorem dX5_checkPerson_0 : decode cX5_checkPerson 0 = .ok (.iload_n 0, 1) := by decide +kernel
theorem dX5_checkPerson_1 : decode cX5_checkPerson 1 = .ok (.ifCond .lt 8, 3) := by decide +kernel
theorem dX5_checkPerson_4 : decode cX5_checkPerson 4 = .ok (.iload_n 0, 1) := by decide +kernel
theorem dX5_checkPerson_5 : decode cX5_checkPerson 5 = .ok (.iconst 5, 1) := by decide +kernel
theorem dX5_checkPerson_6 : decode cX5_checkPerson 6 = .ok (.if_icmp .lt 13, 3) := by decide +kernel
theorem dX5_checkPerson_9 : decode cX5_checkPerson 9 = .ok (.new 219, 3) := by decide +kernel
theorem dX5_checkPerson_12 : decode cX5_checkPerson 12 = .ok (.dup, 1) := by decide +kernel
theorem dX5_checkPerson_13 : decode cX5_checkPerson 13 = .ok (.ldc 239, 2) := by decide +kernel
theorem dX5_checkPerson_15 : decode cX5_checkPerson 15 = .ok (.invokespecial 223, 3) := by decide +kernel
theorem dX5_checkPerson_18 : decode cX5_checkPerson 18 = .ok (.athrow, 1) := by decide +kernel
theorem dX5_checkPerson_19 : decode cX5_checkPerson 19 = .ok (.return_, 1) := by decide +kernel
theorem dX5_checkPlace_0 : decode cX5_checkPlace 0 = .ok (.iload_n 1, 1) := by decide +kernel
theorem dX5_checkPlace_1 : decode cX5_checkPlace 1 = .ok (.ifCond .lt 18, 3) := by decide +kernel
theorem dX5_checkPlace_4 : decode cX5_checkPlace 4 = .ok (.iload_n 1, 1) := by decide +kernel
theorem dX5_checkPlace_5 : decode cX5_checkPlace 5 = .ok (.aload_n 0, 1) := by decide +kernel
theorem dX5_checkPlace_6 : decode cX5_checkPlace 6 = .ok (.getfield 78, 3) := by decide +kernel
theorem dX5_checkPlace_9 : decode cX5_checkPlace 9 = .ok (.getfield 82, 3) := by decide +kernel
theorem dX5_checkPlace_12 : decode cX5_checkPlace 12 = .ok (.if_icmp .ge 7, 3) := by decide +kernel
theorem dX5_checkPlace_15 : decode cX5_checkPlace 15 = .ok (.iload_n 2, 1) := by decide +kernel
theorem dX5_checkPlace_16 : decode cX5_checkPlace 16 = .ok (.ifCond .ge 13, 3) := by decide +kernel
theorem dX5_checkPlace_19 : decode cX5_checkPlace 19 = .ok (.new 219, 3) := by decide +kernel
theorem dX5_checkPlace_22 : decode cX5_checkPlace 22 = .ok (.dup, 1) := by decide +kernel
theorem dX5_checkPlace_23 : decode cX5_checkPlace 23 = .ok (.ldc 241, 2) := by decide +kernel
theorem dX5_checkPlace_25 : decode cX5_checkPlace 25 = .ok (.invokespecial 223, 3) := by decide +kernel
theorem dX5_checkPlace_28 : decode cX5_checkPlace 28 = .ok (.athrow, 1) := by decide +kernel
theorem dX5_checkPlace_29 : decode cX5_checkPlace 29 = .ok (.return_, 1) := by decide +kernel
set_option maxRecDepth 20000 in
theorem ggX5_checkGauge_X5_checkRange : GoodIn wsX5_checkGauge wsX5_checkRange := goodIn_ca (goodIn_r _ [4, 5, 6] (by decide +kernel) (by decide +kernel)) (goodIn_sub (fun _ h => List.mem_cons_of_mem _ (List.mem_append_right _ h)) (by decide +kernel))
set_option maxRecDepth 20000 in
theorem gX5_checkGauge_X5_checkRange : GoodIn wsX5_checkGauge (va_wsS RX5 33 yX5_checkRange wsX5_checkRange) := goodIn_app (goodIn_of _ (by decide +kernel)) ggX5_checkGauge_X5_checkRange
theorem dX5_checkGauge_0 : decode cX5_checkGauge 0 = .ok (.iload_n 0, 1) := by decide +kernel
theorem dX5_checkGauge_1 : decode cX5_checkGauge 1 = .ok (.iconst 5, 1) := by decide +kernel
theorem dX5_checkGauge_2 : decode cX5_checkGauge 2 = .ok (.bipush 20, 2) := by decide +kernel
theorem dX5_checkGauge_4 : decode cX5_checkGauge 4 = .ok (.invokestatic 33, 3) := by decide +kernel
theorem dX5_checkGauge_7 : decode cX5_checkGauge 7 = .ok (.return_, 1) := by decide +kernel
theorem dX5_checkRange_0 : decode cX5_checkRange 0 = .ok (.iload_n 0, 1) := by decide +kernel
theorem dX5_checkRange_1 : decode cX5_checkRange 1 = .ok (.iload_n 1, 1) := by decide +kernel
theorem dX5_checkRange_2 : decode cX5_checkRange 2 = .ok (.if_icmp .lt 8, 3) := by decide +kernel
theorem dX5_checkRange_5 : decode cX5_checkRange 5 = .ok (.iload_n 0, 1) := by decide +kernel
theorem dX5_checkRange_6 : decode cX5_checkRange 6 = .ok (.iload_n 2, 1) := by decide +kernel
theorem dX5_checkRange_7 : decode cX5_checkRange 7 = .ok (.if_icmp .le 13, 3) := by decide +kernel
theorem dX5_checkRange_10 : decode cX5_checkRange 10 = .ok (.new 54, 3) := by decide +kernel
theorem dX5_checkRange_13 : decode cX5_checkRange 13 = .ok (.dup, 1) := by decide +kernel
theorem dX5_checkRange_14 : decode cX5_checkRange 14 = .ok (.ldc 243, 2) := by decide +kernel
theorem dX5_checkRange_16 : decode cX5_checkRange 16 = .ok (.invokespecial 58, 3) := by decide +kernel
theorem dX5_checkRange_19 : decode cX5_checkRange 19 = .ok (.athrow, 1) := by decide +kernel
theorem dX5_checkRange_20 : decode cX5_checkRange 20 = .ok (.return_, 1) := by decide +kernel
theorem dX5_within_0 : decode cX5_within 0 = .ok (.iload_n 0, 1) := by decide +kernel
theorem dX5_within_1 : decode cX5_within 1 = .ok (.iload_n 1, 1) := by decide +kernel
theorem dX5_within_2 : decode cX5_within 2 = .ok (.invokestatic 245, 3) := by decide +kernel
theorem dX5_within_5 : decode cX5_within 5 = .ok (.iload_n 2, 1) := by decide +kernel
theorem dX5_within_6 : decode cX5_within 6 = .ok (.invokestatic 250, 3) := by decide +kernel
theorem dX5_within_9 : decode cX5_within 9 = .ok (.ireturn, 1) := by decide +kernel
theorem dX5_forGauge_0 : decode cX5_forGauge 0 = .ok (.iload_n 0, 1) := by decide +kernel
theorem dX5_forGauge_1 : decode cX5_forGauge 1 = .ok (.iload_n 1, 1) := by decide +kernel
theorem dX5_forGauge_2 : decode cX5_forGauge 2 = .ok (.imul, 1) := by decide +kernel
theorem dX5_forGauge_3 : decode cX5_forGauge 3 = .ok (.bipush 10, 2) := by decide +kernel
theorem dX5_forGauge_5 : decode cX5_forGauge 5 = .ok (.idiv, 1) := by decide +kernel
theorem dX5_forGauge_6 : decode cX5_forGauge 6 = .ok (.ireturn, 1) := by decide +kernel
set_option maxRecDepth 20000 in
theorem ggX5_widthAfter_X5_within : GoodIn wsX5_widthAfter wsX5_within := goodIn_r _ [4, 5, 6, 7, 8, 9, 10, 11] (by decide +kernel) (by decide +kernel)
set_option maxRecDepth 20000 in
theorem gX5_widthAfter_X5_within : GoodIn wsX5_widthAfter (va_wsS RX5 112 yX5_within wsX5_within) := goodIn_app (goodIn_of _ (by decide +kernel)) ggX5_widthAfter_X5_within
theorem dX5_widthAfter_0 : decode cX5_widthAfter 0 = .ok (.iload_n 0, 1) := by decide +kernel
theorem dX5_widthAfter_1 : decode cX5_widthAfter 1 = .ok (.iload_n 1, 1) := by decide +kernel
theorem dX5_widthAfter_2 : decode cX5_widthAfter 2 = .ok (.iadd, 1) := by decide +kernel
theorem dX5_widthAfter_3 : decode cX5_widthAfter 3 = .ok (.iconst 1, 1) := by decide +kernel
theorem dX5_widthAfter_4 : decode cX5_widthAfter 4 = .ok (.bipush 40, 2) := by decide +kernel
theorem dX5_widthAfter_6 : decode cX5_widthAfter 6 = .ok (.invokestatic 112, 3) := by decide +kernel
theorem dX5_widthAfter_9 : decode cX5_widthAfter 9 = .ok (.ireturn, 1) := by decide +kernel
