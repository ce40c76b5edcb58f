theorem dX0_init_0 : decode cX0_init 0 = .ok (.aload_n 0, 1) := by decide +kernel
theorem dX0_init_1 : decode cX0_init 1 = .ok (.invokespecial 3, 3) := by decide +kernel
theorem dX0_init_4 : decode cX0_init 4 = .ok (.aload_n 0, 1) := by decide +kernel
theorem dX0_init_5 : decode cX0_init 5 = .ok (.iconst 0, 1) := by decide +kernel
theorem dX0_init_6 : decode cX0_init 6 = .ok (.putfield 9, 3) := by decide +kernel
theorem dX0_init_9 : decode cX0_init 9 = .ok (.aload_n 0, 1) := by decide +kernel
theorem dX0_init_10 : decode cX0_init 10 = .ok (.sipush 1600, 3) := by decide +kernel
theorem dX0_init_13 : decode cX0_init 13 = .ok (.newarray .int, 2) := by decide +kernel
theorem dX0_init_15 : decode cX0_init 15 = .ok (.putfield 15, 3) := by decide +kernel
theorem dX0_init_18 : decode cX0_init 18 = .ok (.aload_n 0, 1) := by decide +kernel
theorem dX0_init_19 : decode cX0_init 19 = .ok (.bipush 40, 2) := by decide +kernel
theorem dX0_init_21 : decode cX0_init 21 = .ok (.newarray .int, 2) := by decide +kernel
theorem dX0_init_23 : decode cX0_init 23 = .ok (.putfield 19, 3) := by decide +kernel
theorem dX0_init_26 : decode cX0_init 26 = .ok (.aload_n 0, 1) := by decide +kernel
theorem dX0_init_27 : decode cX0_init 27 = .ok (.iload_n 1, 1) := by decide +kernel
theorem dX0_init_28 : decode cX0_init 28 = .ok (.putfield 22, 3) := by decide +kernel
theorem dX0_init_31 : decode cX0_init 31 = .ok (.return_, 1) := by decide +kernel
set_option maxRecDepth 20000 in
theorem ggX0_drawLine_X0_drawRow : GoodIn wsX0_drawLine wsX0_drawRow := goodIn_r _ [8, 3, 9, 23, 24, 25, 26] (by decide +kernel) (by decide +kernel)
set_option maxRecDepth 20000 in
theorem gX0_drawLine_X0_drawRow : GoodIn wsX0_drawLine (wsV RX0 25 RX0 yX0_drawRow wsX0_drawRow) := goodIn_app (goodIn_of _ (by decide +kernel)) ggX0_drawLine_X0_drawRow
set_option maxRecDepth 20000 in
theorem ggX0_drawLine_X5_widthAfter : GoodIn wsX0_drawLine wsX5_widthAfter := goodIn_r _ [12, 13, 14, 11, 15, 16, 17, 18, 19, 20, 21, 22] (by decide +kernel) (by decide +kernel)
set_option maxRecDepth 20000 in
theorem gX0_drawLine_X5_widthAfter_n29 : GoodIn wsX0_drawLine (wsX5_widthAfter) := ggX0_drawLine_X5_widthAfter
theorem dX0_drawLine_0 : decode cX0_drawLine 0 = .ok (.iconst 0, 1) := by decide +kernel
theorem dX0_drawLine_1 : decode cX0_drawLine 1 = .ok (.istore 5, 2) := by decide +kernel
theorem dX0_drawLine_3 : decode cX0_drawLine 3 = .ok (.iload 5, 2) := by decide +kernel
theorem dX0_drawLine_5 : decode cX0_drawLine 5 = .ok (.iload 4, 2) := by decide +kernel
theorem dX0_drawLine_7 : decode cX0_drawLine 7 = .ok (.if_icmp .ge 62, 3) := by decide +kernel
theorem dX0_drawLine_10 : decode cX0_drawLine 10 = .ok (.aload_n 0, 1) := by decide +kernel
theorem dX0_drawLine_11 : decode cX0_drawLine 11 = .ok (.getfield 9, 3) := by decide +kernel
theorem dX0_drawLine_14 : decode cX0_drawLine 14 = .ok (.bipush 40, 2) := by decide +kernel
theorem dX0_drawLine_16 : decode cX0_drawLine 16 = .ok (.if_icmp .ge 53, 3) := by decide +kernel
theorem dX0_drawLine_19 : decode cX0_drawLine 19 = .ok (.aload_n 0, 1) := by decide +kernel
theorem dX0_drawLine_20 : decode cX0_drawLine 20 = .ok (.getfield 19, 3) := by decide +kernel
theorem dX0_drawLine_23 : decode cX0_drawLine 23 = .ok (.aload_n 0, 1) := by decide +kernel
theorem dX0_drawLine_24 : decode cX0_drawLine 24 = .ok (.getfield 9, 3) := by decide +kernel
theorem dX0_drawLine_27 : decode cX0_drawLine 27 = .ok (.aload_n 0, 1) := by decide +kernel
theorem dX0_drawLine_28 : decode cX0_drawLine 28 = .ok (.aload_n 0, 1) := by decide +kernel
theorem dX0_drawLine_29 : decode cX0_drawLine 29 = .ok (.getfield 9, 3) := by decide +kernel
theorem dX0_drawLine_32 : decode cX0_drawLine 32 = .ok (.bipush 40, 2) := by decide +kernel
theorem dX0_drawLine_34 : decode cX0_drawLine 34 = .ok (.imul, 1) := by decide +kernel
theorem dX0_drawLine_35 : decode cX0_drawLine 35 = .ok (.iload_n 1, 1) := by decide +kernel
theorem dX0_drawLine_36 : decode cX0_drawLine 36 = .ok (.iload_n 2, 1) := by decide +kernel
theorem dX0_drawLine_37 : decode cX0_drawLine 37 = .ok (.invokevirtual 25, 3) := by decide +kernel
theorem dX0_drawLine_40 : decode cX0_drawLine 40 = .ok (.iastore, 1) := by decide +kernel
theorem dX0_drawLine_41 : decode cX0_drawLine 41 = .ok (.aload_n 0, 1) := by decide +kernel
theorem dX0_drawLine_42 : decode cX0_drawLine 42 = .ok (.aload_n 0, 1) := by decide +kernel
theorem dX0_drawLine_43 : decode cX0_drawLine 43 = .ok (.getfield 22, 3) := by decide +kernel
theorem dX0_drawLine_46 : decode cX0_drawLine 46 = .ok (.iload_n 3, 1) := by decide +kernel
theorem dX0_drawLine_47 : decode cX0_drawLine 47 = .ok (.invokestatic 29, 3) := by decide +kernel
theorem dX0_drawLine_50 : decode cX0_drawLine 50 = .ok (.putfield 22, 3) := by decide +kernel
theorem dX0_drawLine_53 : decode cX0_drawLine 53 = .ok (.aload_n 0, 1) := by decide +kernel
theorem dX0_drawLine_54 : decode cX0_drawLine 54 = .ok (.dup, 1) := by decide +kernel
theorem dX0_drawLine_55 : decode cX0_drawLine 55 = .ok (.getfield 9, 3) := by decide +kernel
theorem dX0_drawLine_58 : decode cX0_drawLine 58 = .ok (.iconst 1, 1) := by decide +kernel
theorem dX0_drawLine_59 : decode cX0_drawLine 59 = .ok (.iadd, 1) := by decide +kernel
theorem dX0_drawLine_60 : decode cX0_drawLine 60 = .ok (.putfield 9, 3) := by decide +kernel
theorem dX0_drawLine_63 : decode cX0_drawLine 63 = .ok (.iinc 5 1, 3) := by decide +kernel
theorem dX0_drawLine_66 : decode cX0_drawLine 66 = .ok (.goto (-63), 3) := by decide +kernel
theorem dX0_drawLine_69 : decode cX0_drawLine 69 = .ok (.return_, 1) := by decide +kernel
theorem dX0_drawRow_0 : decode cX0_drawRow 0 = .ok (.iconst 0, 1) := by decide +kernel
theorem dX0_drawRow_1 : decode cX0_drawRow 1 = .ok (.istore 4, 2) := by decide +kernel
theorem dX0_drawRow_3 : decode cX0_drawRow 3 = .ok (.iconst 0, 1) := by decide +kernel
theorem dX0_drawRow_4 : decode cX0_drawRow 4 = .ok (.istore 5, 2) := by decide +kernel
theorem dX0_drawRow_6 : decode cX0_drawRow 6 = .ok (.iconst 0, 1) := by decide +kernel
theorem dX0_drawRow_7 : decode cX0_drawRow 7 = .ok (.istore 6, 2) := by decide +kernel
theorem dX0_drawRow_9 : decode cX0_drawRow 9 = .ok (.iload 6, 2) := by decide +kernel
theorem dX0_drawRow_11 : decode cX0_drawRow 11 = .ok (.aload_n 0, 1) := by decide +kernel
theorem dX0_drawRow_12 : decode cX0_drawRow 12 = .ok (.getfield 22, 3) := by decide +kernel
theorem dX0_drawRow_15 : decode cX0_drawRow 15 = .ok (.if_icmp .ge 70, 3) := by decide +kernel
theorem dX0_drawRow_18 : decode cX0_drawRow 18 = .ok (.iload 5, 2) := by decide +kernel
theorem dX0_drawRow_20 : decode cX0_drawRow 20 = .ok (.iload_n 2, 1) := by decide +kernel
theorem dX0_drawRow_21 : decode cX0_drawRow 21 = .ok (.if_icmp .ge 7, 3) := by decide +kernel
theorem dX0_drawRow_24 : decode cX0_drawRow 24 = .ok (.iconst 1, 1) := by decide +kernel
theorem dX0_drawRow_25 : decode cX0_drawRow 25 = .ok (.goto 4, 3) := by decide +kernel
theorem dX0_drawRow_28 : decode cX0_drawRow 28 = .ok (.iconst 0, 1) := by decide +kernel
theorem dX0_drawRow_29 : decode cX0_drawRow 29 = .ok (.istore 7, 2) := by decide +kernel
theorem dX0_drawRow_31 : decode cX0_drawRow 31 = .ok (.aload_n 0, 1) := by decide +kernel
theorem dX0_drawRow_32 : decode cX0_drawRow 32 = .ok (.getfield 15, 3) := by decide +kernel
theorem dX0_drawRow_35 : decode cX0_drawRow 35 = .ok (.iload_n 1, 1) := by decide +kernel
theorem dX0_drawRow_36 : decode cX0_drawRow 36 = .ok (.iload 6, 2) := by decide +kernel
theorem dX0_drawRow_38 : decode cX0_drawRow 38 = .ok (.iadd, 1) := by decide +kernel
theorem dX0_drawRow_39 : decode cX0_drawRow 39 = .ok (.iload 7, 2) := by decide +kernel
theorem dX0_drawRow_41 : decode cX0_drawRow 41 = .ok (.ifCond .eq 7, 3) := by decide +kernel
theorem dX0_drawRow_44 : decode cX0_drawRow 44 = .ok (.iconst 1, 1) := by decide +kernel
theorem dX0_drawRow_45 : decode cX0_drawRow 45 = .ok (.goto 4, 3) := by decide +kernel
theorem dX0_drawRow_48 : decode cX0_drawRow 48 = .ok (.iconst 2, 1) := by decide +kernel
theorem dX0_drawRow_49 : decode cX0_drawRow 49 = .ok (.iastore, 1) := by decide +kernel
theorem dX0_drawRow_50 : decode cX0_drawRow 50 = .ok (.iload 4, 2) := by decide +kernel
theorem dX0_drawRow_52 : decode cX0_drawRow 52 = .ok (.iload 7, 2) := by decide +kernel
theorem dX0_drawRow_54 : decode cX0_drawRow 54 = .ok (.ifCond .eq 7, 3) := by decide +kernel
theorem dX0_drawRow_57 : decode cX0_drawRow 57 = .ok (.iconst 2, 1) := by decide +kernel
theorem dX0_drawRow_58 : decode cX0_drawRow 58 = .ok (.goto 4, 3) := by decide +kernel
theorem dX0_drawRow_61 : decode cX0_drawRow 61 = .ok (.iconst 3, 1) := by decide +kernel
theorem dX0_drawRow_62 : decode cX0_drawRow 62 = .ok (.iadd, 1) := by decide +kernel
theorem dX0_drawRow_63 : decode cX0_drawRow 63 = .ok (.istore 4, 2) := by decide +kernel
theorem dX0_drawRow_65 : decode cX0_drawRow 65 = .ok (.iinc 5 1, 3) := by decide +kernel
theorem dX0_drawRow_68 : decode cX0_drawRow 68 = .ok (.iload 5, 2) := by decide +kernel
theorem dX0_drawRow_70 : decode cX0_drawRow 70 = .ok (.iload_n 2, 1) := by decide +kernel
theorem dX0_drawRow_71 : decode cX0_drawRow 71 = .ok (.iload_n 3, 1) := by decide +kernel
theorem dX0_drawRow_72 : decode cX0_drawRow 72 = .ok (.iadd, 1) := by decide +kernel
theorem dX0_drawRow_73 : decode cX0_drawRow 73 = .ok (.if_icmp .ne 6, 3) := by decide +kernel
theorem dX0_drawRow_76 : decode cX0_drawRow 76 = .ok (.iconst 0, 1) := by decide +kernel
theorem dX0_drawRow_77 : decode cX0_drawRow 77 = .ok (.istore 5, 2) := by decide +kernel
theorem dX0_drawRow_79 : decode cX0_drawRow 79 = .ok (.iinc 6 1, 3) := by decide +kernel
theorem dX0_drawRow_82 : decode cX0_drawRow 82 = .ok (.goto (-73), 3) := by decide +kernel
theorem dX0_drawRow_85 : decode cX0_drawRow 85 = .ok (.iload 4, 2) := by decide +kernel
theorem dX0_drawRow_87 : decode cX0_drawRow 87 = .ok (.ireturn, 1) := by decide +kernel
theorem dX0_stitchAt_0 : decode cX0_stitchAt 0 = .ok (.iload_n 2, 1) := by decide +kernel
theorem dX0_stitchAt_1 : decode cX0_stitchAt 1 = .ok (.bipush 40, 2) := by decide +kernel
theorem dX0_stitchAt_3 : decode cX0_stitchAt 3 = .ok (.if_icmp .ge 17, 3) := by decide +kernel
theorem dX0_stitchAt_6 : decode cX0_stitchAt 6 = .ok (.aload_n 0, 1) := by decide +kernel
theorem dX0_stitchAt_7 : decode cX0_stitchAt 7 = .ok (.getfield 15, 3) := by decide +kernel
theorem dX0_stitchAt_10 : decode cX0_stitchAt 10 = .ok (.iload_n 1, 1) := by decide +kernel
theorem dX0_stitchAt_11 : decode cX0_stitchAt 11 = .ok (.bipush 40, 2) := by decide +kernel
theorem dX0_stitchAt_13 : decode cX0_stitchAt 13 = .ok (.imul, 1) := by decide +kernel
theorem dX0_stitchAt_14 : decode cX0_stitchAt 14 = .ok (.iload_n 2, 1) := by decide +kernel
theorem dX0_stitchAt_15 : decode cX0_stitchAt 15 = .ok (.iadd, 1) := by decide +kernel
theorem dX0_stitchAt_16 : decode cX0_stitchAt 16 = .ok (.iaload, 1) := by decide +kernel
theorem dX0_stitchAt_17 : decode cX0_stitchAt 17 = .ok (.goto 4, 3) := by decide +kernel
theorem dX0_stitchAt_20 : decode cX0_stitchAt 20 = .ok (.iconst 0, 1) := by decide +kernel
theorem dX0_stitchAt_21 : decode cX0_stitchAt 21 = .ok (.ireturn, 1) := by decide +kernel
theorem dX0_yarnOf_0 : decode cX0_yarnOf 0 = .ok (.aload_n 0, 1) := by decide +kernel
theorem dX0_yarnOf_1 : decode cX0_yarnOf 1 = .ok (.getfield 19, 3) := by decide +kernel
theorem dX0_yarnOf_4 : decode cX0_yarnOf 4 = .ok (.iload_n 1, 1) := by decide +kernel
theorem dX0_yarnOf_5 : decode cX0_yarnOf 5 = .ok (.iaload, 1) := by decide +kernel
theorem dX0_yarnOf_6 : decode cX0_yarnOf 6 = .ok (.ireturn, 1) := by decide +kernel
theorem dX0_yarnOfAllRows_0 : decode cX0_yarnOfAllRows 0 = .ok (.iconst 0, 1) := by decide +kernel
theorem dX0_yarnOfAllRows_1 : decode cX0_yarnOfAllRows 1 = .ok (.istore_n 1, 1) := by decide +kernel
theorem dX0_yarnOfAllRows_2 : decode cX0_yarnOfAllRows 2 = .ok (.iconst 0, 1) := by decide +kernel
theorem dX0_yarnOfAllRows_3 : decode cX0_yarnOfAllRows 3 = .ok (.istore_n 2, 1) := by decide +kernel
theorem dX0_yarnOfAllRows_4 : decode cX0_yarnOfAllRows 4 = .ok (.iload_n 2, 1) := by decide +kernel
theorem dX0_yarnOfAllRows_5 : decode cX0_yarnOfAllRows 5 = .ok (.aload_n 0, 1) := by decide +kernel
theorem dX0_yarnOfAllRows_6 : decode cX0_yarnOfAllRows 6 = .ok (.getfield 9, 3) := by decide +kernel
theorem dX0_yarnOfAllRows_9 : decode cX0_yarnOfAllRows 9 = .ok (.if_icmp .ge 18, 3) := by decide +kernel
theorem dX0_yarnOfAllRows_12 : decode cX0_yarnOfAllRows 12 = .ok (.iload_n 1, 1) := by decide +kernel
theorem dX0_yarnOfAllRows_13 : decode cX0_yarnOfAllRows 13 = .ok (.aload_n 0, 1) := by decide +kernel
theorem dX0_yarnOfAllRows_14 : decode cX0_yarnOfAllRows 14 = .ok (.getfield 19, 3) := by decide +kernel
theorem dX0_yarnOfAllRows_17 : decode cX0_yarnOfAllRows 17 = .ok (.iload_n 2, 1) := by decide +kernel
theorem dX0_yarnOfAllRows_18 : decode cX0_yarnOfAllRows 18 = .ok (.iaload, 1) := by decide +kernel
theorem dX0_yarnOfAllRows_19 : decode cX0_yarnOfAllRows 19 = .ok (.iadd, 1) := by decide +kernel
theorem dX0_yarnOfAllRows_20 : decode cX0_yarnOfAllRows 20 = .ok (.istore_n 1, 1) := by decide +kernel
theorem dX0_yarnOfAllRows_21 : decode cX0_yarnOfAllRows 21 = .ok (.iinc 2 1, 3) := by decide +kernel
theorem dX0_yarnOfAllRows_24 : decode cX0_yarnOfAllRows 24 = .ok (.goto (-20), 3) := by decide +kernel
theorem dX0_yarnOfAllRows_27 : decode cX0_yarnOfAllRows 27 = .ok (.iload_n 1, 1) := by decide +kernel
theorem dX0_yarnOfAllRows_28 : decode cX0_yarnOfAllRows 28 = .ok (.ireturn, 1) := by decide +kernel
theorem dX0_isSameAs_0 : decode cX0_isSameAs 0 = .ok (.aload_n 0, 1) := by decide +kernel
theorem dX0_isSameAs_1 : decode cX0_isSameAs 1 = .ok (.getfield 9, 3) := by decide +kernel
theorem dX0_isSameAs_4 : decode cX0_isSameAs 4 = .ok (.aload_n 1, 1) := by decide +kernel
theorem dX0_isSameAs_5 : decode cX0_isSameAs 5 = .ok (.getfield 9, 3) := by decide +kernel
theorem dX0_isSameAs_8 : decode cX0_isSameAs 8 = .ok (.if_icmp .eq 5, 3) := by decide +kernel
theorem dX0_isSameAs_11 : decode cX0_isSameAs 11 = .ok (.iconst 0, 1) := by decide +kernel
theorem dX0_isSameAs_12 : decode cX0_isSameAs 12 = .ok (.ireturn, 1) := by decide +kernel
theorem dX0_isSameAs_13 : decode cX0_isSameAs 13 = .ok (.iconst 0, 1) := by decide +kernel
theorem dX0_isSameAs_14 : decode cX0_isSameAs 14 = .ok (.istore_n 2, 1) := by decide +kernel
theorem dX0_isSameAs_15 : decode cX0_isSameAs 15 = .ok (.iload_n 2, 1) := by decide +kernel
theorem dX0_isSameAs_16 : decode cX0_isSameAs 16 = .ok (.aload_n 0, 1) := by decide +kernel
theorem dX0_isSameAs_17 : decode cX0_isSameAs 17 = .ok (.getfield 9, 3) := by decide +kernel
theorem dX0_isSameAs_20 : decode cX0_isSameAs 20 = .ok (.bipush 40, 2) := by decide +kernel
theorem dX0_isSameAs_22 : decode cX0_isSameAs 22 = .ok (.imul, 1) := by decide +kernel
theorem dX0_isSameAs_23 : decode cX0_isSameAs 23 = .ok (.if_icmp .ge 26, 3) := by decide +kernel
theorem dX0_isSameAs_26 : decode cX0_isSameAs 26 = .ok (.aload_n 0, 1) := by decide +kernel
theorem dX0_isSameAs_27 : decode cX0_isSameAs 27 = .ok (.getfield 15, 3) := by decide +kernel
theorem dX0_isSameAs_30 : decode cX0_isSameAs 30 = .ok (.iload_n 2, 1) := by decide +kernel
theorem dX0_isSameAs_31 : decode cX0_isSameAs 31 = .ok (.iaload, 1) := by decide +kernel
theorem dX0_isSameAs_32 : decode cX0_isSameAs 32 = .ok (.aload_n 1, 1) := by decide +kernel
theorem dX0_isSameAs_33 : decode cX0_isSameAs 33 = .ok (.getfield 15, 3) := by decide +kernel
theorem dX0_isSameAs_36 : decode cX0_isSameAs 36 = .ok (.iload_n 2, 1) := by decide +kernel
theorem dX0_isSameAs_37 : decode cX0_isSameAs 37 = .ok (.iaload, 1) := by decide +kernel
theorem dX0_isSameAs_38 : decode cX0_isSameAs 38 = .ok (.if_icmp .eq 5, 3) := by decide +kernel
theorem dX0_isSameAs_41 : decode cX0_isSameAs 41 = .ok (.iconst 0, 1) := by decide +kernel
theorem dX0_isSameAs_42 : decode cX0_isSameAs 42 = .ok (.ireturn, 1) := by decide +kernel
theorem dX0_isSameAs_43 : decode cX0_isSameAs 43 = .ok (.iinc 2 1, 3) := by decide +kernel
theorem dX0_isSameAs_46 : decode cX0_isSameAs 46 = .ok (.goto (-31), 3) := by decide +kernel
theorem dX0_isSameAs_49 : decode cX0_isSameAs 49 = .ok (.iconst 1, 1) := by decide +kernel
theorem dX0_isSameAs_50 : decode cX0_isSameAs 50 = .ok (.ireturn, 1) := by decide +kernel
theorem dX1_init_0 : decode cX1_init 0 = .ok (.aload_n 0, 1) := by decide +kernel
theorem dX1_init_1 : decode cX1_init 1 = .ok (.invokespecial 1, 3) := by decide +kernel
theorem dX1_init_4 : decode cX1_init 4 = .ok (.aload_n 0, 1) := by decide +kernel
theorem dX1_init_5 : decode cX1_init 5 = .ok (.iload_n 1, 1) := by decide +kernel
theorem dX1_init_6 : decode cX1_init 6 = .ok (.putfield 7, 3) := by decide +kernel
theorem dX1_init_9 : decode cX1_init 9 = .ok (.aload_n 0, 1) := by decide +kernel
theorem dX1_init_10 : decode cX1_init 10 = .ok (.iload_n 3, 1) := by decide +kernel
theorem dX1_init_11 : decode cX1_init 11 = .ok (.putfield 13, 3) := by decide +kernel
theorem dX1_init_14 : decode cX1_init 14 = .ok (.aload_n 0, 1) := by decide +kernel
theorem dX1_init_15 : decode cX1_init 15 = .ok (.iload_n 2, 1) := by decide +kernel
theorem dX1_init_16 : decode cX1_init 16 = .ok (.putfield 16, 3) := by decide +kernel
theorem dX1_init_19 : decode cX1_init 19 = .ok (.aload_n 0, 1) := by decide +kernel
theorem dX1_init_20 : decode cX1_init 20 = .ok (.iload 4, 2) := by decide +kernel
theorem dX1_init_22 : decode cX1_init 22 = .ok (.putfield 19, 3) := by decide +kernel
theorem dX1_init_25 : decode cX1_init 25 = .ok (.return_, 1) := by decide +kernel
set_option maxRecDepth 20000 in
theorem ggX2_init_X3_init : GoodIn wsX2_init wsX3_init := goodIn_r _ [22, 23, 2, 3, 24, 25, 26, 27, 28, 29, 30, 48, 49, 50, 51, 52, 53] (by decide +kernel) (by decide +kernel)
set_option maxRecDepth 20000 in
theorem gX2_init_X3_init : GoodIn wsX2_init (wsX3_init) := ggX2_init_X3_init
set_option maxRecDepth 20000 in
theorem ggX2_init_X0_init : GoodIn wsX2_init wsX0_init := goodIn_r _ [33, 34, 2, 3, 35, 24, 36, 37, 38, 54, 55, 56, 57] (by decide +kernel) (by decide +kernel)
set_option maxRecDepth 20000 in
theorem gX2_init_X0_init : GoodIn wsX2_init (wsX0_init) := ggX2_init_X0_init
theorem dX2_init_0 : decode cX2_init 0 = .ok (.aload_n 0, 1) := by decide +kernel
theorem dX2_init_1 : decode cX2_init 1 = .ok (.invokespecial 3, 3) := by decide +kernel
theorem dX2_init_4 : decode cX2_init 4 = .ok (.aload_n 0, 1) := by decide +kernel
theorem dX2_init_5 : decode cX2_init 5 = .ok (.iconst 5, 1) := by decide +kernel
theorem dX2_init_6 : decode cX2_init 6 = .ok (.newarray .boolean, 2) := by decide +kernel
theorem dX2_init_8 : decode cX2_init 8 = .ok (.putfield 9, 3) := by decide +kernel
theorem dX2_init_11 : decode cX2_init 11 = .ok (.aload_n 0, 1) := by decide +kernel
theorem dX2_init_12 : decode cX2_init 12 = .ok (.aconst_null, 1) := by decide +kernel
theorem dX2_init_13 : decode cX2_init 13 = .ok (.putfield 15, 3) := by decide +kernel
theorem dX2_init_16 : decode cX2_init 16 = .ok (.aload_n 0, 1) := by decide +kernel
theorem dX2_init_17 : decode cX2_init 17 = .ok (.iconst 0, 1) := by decide +kernel
theorem dX2_init_18 : decode cX2_init 18 = .ok (.putfield 19, 3) := by decide +kernel
theorem dX2_init_21 : decode cX2_init 21 = .ok (.aload_n 0, 1) := by decide +kernel
theorem dX2_init_22 : decode cX2_init 22 = .ok (.iconst 0, 1) := by decide +kernel
theorem dX2_init_23 : decode cX2_init 23 = .ok (.putfield 23, 3) := by decide +kernel
theorem dX2_init_26 : decode cX2_init 26 = .ok (.aload_n 0, 1) := by decide +kernel
theorem dX2_init_27 : decode cX2_init 27 = .ok (.iload_n 1, 1) := by decide +kernel
theorem dX2_init_28 : decode cX2_init 28 = .ok (.putfield 27, 3) := by decide +kernel
theorem dX2_init_31 : decode cX2_init 31 = .ok (.aload_n 0, 1) := by decide +kernel
theorem dX2_init_32 : decode cX2_init 32 = .ok (.iload_n 2, 1) := by decide +kernel
theorem dX2_init_33 : decode cX2_init 33 = .ok (.putfield 30, 3) := by decide +kernel
theorem dX2_init_36 : decode cX2_init 36 = .ok (.aload_n 0, 1) := by decide +kernel
theorem dX2_init_37 : decode cX2_init 37 = .ok (.iload 4, 2) := by decide +kernel
theorem dX2_init_39 : decode cX2_init 39 = .ok (.putfield 33, 3) := by decide +kernel
theorem dX2_init_42 : decode cX2_init 42 = .ok (.aload_n 0, 1) := by decide +kernel
theorem dX2_init_43 : decode cX2_init 43 = .ok (.new 36, 3) := by decide +kernel
theorem dX2_init_46 : decode cX2_init 46 = .ok (.dup, 1) := by decide +kernel
theorem dX2_init_47 : decode cX2_init 47 = .ok (.iload_n 3, 1) := by decide +kernel
theorem dX2_init_48 : decode cX2_init 48 = .ok (.invokespecial 38, 3) := by decide +kernel
theorem dX2_init_51 : decode cX2_init 51 = .ok (.putfield 41, 3) := by decide +kernel
theorem dX2_init_54 : decode cX2_init 54 = .ok (.aload_n 0, 1) := by decide +kernel
theorem dX2_init_55 : decode cX2_init 55 = .ok (.new 45, 3) := by decide +kernel
theorem dX2_init_58 : decode cX2_init 58 = .ok (.dup, 1) := by decide +kernel
theorem dX2_init_59 : decode cX2_init 59 = .ok (.iload_n 3, 1) := by decide +kernel
theorem dX2_init_60 : decode cX2_init 60 = .ok (.invokespecial 47, 3) := by decide +kernel
theorem dX2_init_63 : decode cX2_init 63 = .ok (.putfield 48, 3) := by decide +kernel
theorem dX2_init_66 : decode cX2_init 66 = .ok (.return_, 1) := by decide +kernel
theorem dX2_isPublished_0 : decode cX2_isPublished 0 = .ok (.aload_n 0, 1) := by decide +kernel
theorem dX2_isPublished_1 : decode cX2_isPublished 1 = .ok (.getfield 15, 3) := by decide +kernel
theorem dX2_isPublished_4 : decode cX2_isPublished 4 = .ok (.ifnull 7, 3) := by decide +kernel
theorem dX2_isPublished_7 : decode cX2_isPublished 7 = .ok (.iconst 1, 1) := by decide +kernel
theorem dX2_isPublished_8 : decode cX2_isPublished 8 = .ok (.goto 4, 3) := by decide +kernel
theorem dX2_isPublished_11 : decode cX2_isPublished 11 = .ok (.iconst 0, 1) := by decide +kernel
theorem dX2_isPublished_12 : decode cX2_isPublished 12 = .ok (.ireturn, 1) := by decide +kernel
theorem dX2_hasNoLines_0 : decode cX2_hasNoLines 0 = .ok (.aload_n 0, 1) := by decide +kernel
theorem dX2_hasNoLines_1 : decode cX2_hasNoLines 1 = .ok (.getfield 41, 3) := by decide +kernel
theorem dX2_hasNoLines_4 : decode cX2_hasNoLines 4 = .ok (.getfield 52, 3) := by decide +kernel
theorem dX2_hasNoLines_7 : decode cX2_hasNoLines 7 = .ok (.ifCond .ne 7, 3) := by decide +kernel
theorem dX2_hasNoLines_10 : decode cX2_hasNoLines 10 = .ok (.iconst 1, 1) := by decide +kernel
theorem dX2_hasNoLines_11 : decode cX2_hasNoLines 11 = .ok (.goto 4, 3) := by decide +kernel
theorem dX2_hasNoLines_14 : decode cX2_hasNoLines 14 = .ok (.iconst 0, 1) := by decide +kernel
theorem dX2_hasNoLines_15 : decode cX2_hasNoLines 15 = .ok (.ireturn, 1) := by decide +kernel
theorem dX2_takesLine_0 : decode cX2_takesLine 0 = .ok (.aload_n 0, 1) := by decide +kernel
theorem dX2_takesLine_1 : decode cX2_takesLine 1 = .ok (.getfield 41, 3) := by decide +kernel
theorem dX2_takesLine_4 : decode cX2_takesLine 4 = .ok (.getfield 52, 3) := by decide +kernel
theorem dX2_takesLine_7 : decode cX2_takesLine 7 = .ok (.bipush 6, 2) := by decide +kernel
theorem dX2_takesLine_9 : decode cX2_takesLine 9 = .ok (.if_icmp .ge 21, 3) := by decide +kernel
theorem dX2_takesLine_12 : decode cX2_takesLine 12 = .ok (.aload_n 0, 1) := by decide +kernel
theorem dX2_takesLine_13 : decode cX2_takesLine 13 = .ok (.getfield 48, 3) := by decide +kernel
theorem dX2_takesLine_16 : decode cX2_takesLine 16 = .ok (.getfield 55, 3) := by decide +kernel
theorem dX2_takesLine_19 : decode cX2_takesLine 19 = .ok (.iload_n 1, 1) := by decide +kernel
theorem dX2_takesLine_20 : decode cX2_takesLine 20 = .ok (.iadd, 1) := by decide +kernel
theorem dX2_takesLine_21 : decode cX2_takesLine 21 = .ok (.bipush 40, 2) := by decide +kernel
theorem dX2_takesLine_23 : decode cX2_takesLine 23 = .ok (.if_icmp .gt 7, 3) := by decide +kernel
theorem dX2_takesLine_26 : decode cX2_takesLine 26 = .ok (.iconst 1, 1) := by decide +kernel
theorem dX2_takesLine_27 : decode cX2_takesLine 27 = .ok (.goto 4, 3) := by decide +kernel
theorem dX2_takesLine_30 : decode cX2_takesLine 30 = .ok (.iconst 0, 1) := by decide +kernel
theorem dX2_takesLine_31 : decode cX2_takesLine 31 = .ok (.ireturn, 1) := by decide +kernel
set_option maxRecDepth 20000 in
theorem ggX2_addLine_X3_append : GoodIn wsX2_addLine wsX3_append := goodIn_r _ [7, 8, 9, 10, 11, 12, 48, 49, 50, 51, 52, 53] (by decide +kernel) (by decide +kernel)
set_option maxRecDepth 20000 in
theorem gX2_addLine_X3_append : GoodIn wsX2_addLine (wsV RX2 58 RX3 yX3_append wsX3_append) := goodIn_app (goodIn_of _ (by decide +kernel)) ggX2_addLine_X3_append
set_option maxRecDepth 20000 in
theorem ggX2_addLine_X0_drawLine : GoodIn wsX2_addLine wsX0_drawLine := goodIn_r _ [17, 18, 19, 20, 21, 22, 23, 16, 24, 25, 26, 27, 28, 29, 30, 31, 32, 33, 34, 35, 36, 37, 38, 54, 55, 56, 57] (by decide +kernel) (by decide +kernel)
set_option maxRecDepth 20000 in
theorem gX2_addLine_X0_drawLine : GoodIn wsX2_addLine (wsV RX2 62 RX0 yX0_drawLine wsX0_drawLine) := goodIn_app (goodIn_of _ (by decide +kernel)) ggX2_addLine_X0_drawLine
theorem dX2_addLine_0 : decode cX2_addLine 0 = .ok (.aload_n 0, 1) := by decide +kernel
theorem dX2_addLine_1 : decode cX2_addLine 1 = .ok (.getfield 41, 3) := by decide +kernel
theorem dX2_addLine_4 : decode cX2_addLine 4 = .ok (.iload_n 1, 1) := by decide +kernel
theorem dX2_addLine_5 : decode cX2_addLine 5 = .ok (.iload_n 2, 1) := by decide +kernel
theorem dX2_addLine_6 : decode cX2_addLine 6 = .ok (.iload_n 3, 1) := by decide +kernel
theorem dX2_addLine_7 : decode cX2_addLine 7 = .ok (.iload 4, 2) := by decide +kernel
theorem dX2_addLine_9 : decode cX2_addLine 9 = .ok (.invokevirtual 58, 3) := by decide +kernel
theorem dX2_addLine_12 : decode cX2_addLine 12 = .ok (.aload_n 0, 1) := by decide +kernel
theorem dX2_addLine_13 : decode cX2_addLine 13 = .ok (.getfield 48, 3) := by decide +kernel
theorem dX2_addLine_16 : decode cX2_addLine 16 = .ok (.iload_n 1, 1) := by decide +kernel
theorem dX2_addLine_17 : decode cX2_addLine 17 = .ok (.iload_n 2, 1) := by decide +kernel
theorem dX2_addLine_18 : decode cX2_addLine 18 = .ok (.iload_n 3, 1) := by decide +kernel
theorem dX2_addLine_19 : decode cX2_addLine 19 = .ok (.iload 4, 2) := by decide +kernel
theorem dX2_addLine_21 : decode cX2_addLine 21 = .ok (.invokevirtual 62, 3) := by decide +kernel
theorem dX2_addLine_24 : decode cX2_addLine 24 = .ok (.return_, 1) := by decide +kernel
set_option maxRecDepth 20000 in
theorem ggX2_addLinesFor_X3_timesFor : GoodIn wsX2_addLinesFor wsX3_timesFor := goodIn_r _ [5, 6, 7, 8, 9, 10, 11, 12, 13, 51, 52, 53, 54, 55, 56] (by decide +kernel) (by decide +kernel)
set_option maxRecDepth 20000 in
theorem gX2_addLinesFor_X3_timesFor : GoodIn wsX2_addLinesFor (wsV RX2 75 RX3 yX3_timesFor wsX3_timesFor) := goodIn_app (goodIn_of _ (by decide +kernel)) ggX2_addLinesFor_X3_timesFor
set_option maxRecDepth 20000 in
theorem ggX2_addLinesFor_X2_addLine : GoodIn wsX2_addLinesFor wsX2_addLine := goodIn_r _ [18, 19, 20, 21, 22, 23, 4, 24, 25, 26, 27, 28, 6, 29, 30, 31, 32, 33, 34, 35, 36, 37, 38, 39, 40, 41, 42, 12, 43, 44, 45, 46, 47, 8, 9, 10, 48, 49, 50, 57, 58, 59, 60, 61, 62, 63, 64, 65, 51, 52, 53, 54, 55, 56, 66, 67, 68, 69] (by decide +kernel) (by decide +kernel)
set_option maxRecDepth 20000 in
theorem gX2_addLinesFor_X2_addLine : GoodIn wsX2_addLinesFor (wsV RX2 79 RX2 yX2_addLine wsX2_addLine) := goodIn_app (goodIn_of _ (by decide +kernel)) ggX2_addLinesFor_X2_addLine
theorem dX2_addLinesFor_0 : decode cX2_addLinesFor 0 = .ok (.iconst 0, 1) := by decide +kernel
theorem dX2_addLinesFor_1 : decode cX2_addLinesFor 1 = .ok (.istore_n 3, 1) := by decide +kernel
theorem dX2_addLinesFor_2 : decode cX2_addLinesFor 2 = .ok (.iload_n 3, 1) := by decide +kernel
theorem dX2_addLinesFor_3 : decode cX2_addLinesFor 3 = .ok (.aload_n 2, 1) := by decide +kernel
theorem dX2_addLinesFor_4 : decode cX2_addLinesFor 4 = .ok (.getfield 52, 3) := by decide +kernel
theorem dX2_addLinesFor_7 : decode cX2_addLinesFor 7 = .ok (.if_icmp .ge 37, 3) := by decide +kernel
theorem dX2_addLinesFor_10 : decode cX2_addLinesFor 10 = .ok (.aload_n 0, 1) := by decide +kernel
theorem dX2_addLinesFor_11 : decode cX2_addLinesFor 11 = .ok (.aload_n 2, 1) := by decide +kernel
theorem dX2_addLinesFor_12 : decode cX2_addLinesFor 12 = .ok (.getfield 65, 3) := by decide +kernel
theorem dX2_addLinesFor_15 : decode cX2_addLinesFor 15 = .ok (.iload_n 3, 1) := by decide +kernel
theorem dX2_addLinesFor_16 : decode cX2_addLinesFor 16 = .ok (.iaload, 1) := by decide +kernel
theorem dX2_addLinesFor_17 : decode cX2_addLinesFor 17 = .ok (.aload_n 2, 1) := by decide +kernel
theorem dX2_addLinesFor_18 : decode cX2_addLinesFor 18 = .ok (.getfield 69, 3) := by decide +kernel
theorem dX2_addLinesFor_21 : decode cX2_addLinesFor 21 = .ok (.iload_n 3, 1) := by decide +kernel
theorem dX2_addLinesFor_22 : decode cX2_addLinesFor 22 = .ok (.iaload, 1) := by decide +kernel
theorem dX2_addLinesFor_23 : decode cX2_addLinesFor 23 = .ok (.aload_n 2, 1) := by decide +kernel
theorem dX2_addLinesFor_24 : decode cX2_addLinesFor 24 = .ok (.getfield 72, 3) := by decide +kernel
theorem dX2_addLinesFor_27 : decode cX2_addLinesFor 27 = .ok (.iload_n 3, 1) := by decide +kernel
theorem dX2_addLinesFor_28 : decode cX2_addLinesFor 28 = .ok (.iaload, 1) := by decide +kernel
theorem dX2_addLinesFor_29 : decode cX2_addLinesFor 29 = .ok (.aload_n 2, 1) := by decide +kernel
theorem dX2_addLinesFor_30 : decode cX2_addLinesFor 30 = .ok (.iload_n 1, 1) := by decide +kernel
theorem dX2_addLinesFor_31 : decode cX2_addLinesFor 31 = .ok (.iload_n 3, 1) := by decide +kernel
theorem dX2_addLinesFor_32 : decode cX2_addLinesFor 32 = .ok (.invokevirtual 75, 3) := by decide +kernel
theorem dX2_addLinesFor_35 : decode cX2_addLinesFor 35 = .ok (.invokevirtual 79, 3) := by decide +kernel
theorem dX2_addLinesFor_38 : decode cX2_addLinesFor 38 = .ok (.iinc 3 1, 3) := by decide +kernel
theorem dX2_addLinesFor_41 : decode cX2_addLinesFor 41 = .ok (.goto (-39), 3) := by decide +kernel
theorem dX2_addLinesFor_44 : decode cX2_addLinesFor 44 = .ok (.return_, 1) := by decide +kernel
theorem dX2_mayBeKnittedBy_0 : decode cX2_mayBeKnittedBy 0 = .ok (.iload_n 1, 1) := by decide +kernel
theorem dX2_mayBeKnittedBy_1 : decode cX2_mayBeKnittedBy 1 = .ok (.aload_n 0, 1) := by decide +kernel
theorem dX2_mayBeKnittedBy_2 : decode cX2_mayBeKnittedBy 2 = .ok (.getfield 30, 3) := by decide +kernel
theorem dX2_mayBeKnittedBy_5 : decode cX2_mayBeKnittedBy 5 = .ok (.if_icmp .eq 12, 3) := by decide +kernel
theorem dX2_mayBeKnittedBy_8 : decode cX2_mayBeKnittedBy 8 = .ok (.aload_n 0, 1) := by decide +kernel
theorem dX2_mayBeKnittedBy_9 : decode cX2_mayBeKnittedBy 9 = .ok (.getfield 9, 3) := by decide +kernel
theorem dX2_mayBeKnittedBy_12 : decode cX2_mayBeKnittedBy 12 = .ok (.iload_n 1, 1) := by decide +kernel
theorem dX2_mayBeKnittedBy_13 : decode cX2_mayBeKnittedBy 13 = .ok (.baload, 1) := by decide +kernel
theorem dX2_mayBeKnittedBy_14 : decode cX2_mayBeKnittedBy 14 = .ok (.ifCond .eq 7, 3) := by decide +kernel
theorem dX2_mayBeKnittedBy_17 : decode cX2_mayBeKnittedBy 17 = .ok (.iconst 1, 1) := by decide +kernel
theorem dX2_mayBeKnittedBy_18 : decode cX2_mayBeKnittedBy 18 = .ok (.goto 4, 3) := by decide +kernel
theorem dX2_mayBeKnittedBy_21 : decode cX2_mayBeKnittedBy 21 = .ok (.iconst 0, 1) := by decide +kernel
theorem dX2_mayBeKnittedBy_22 : decode cX2_mayBeKnittedBy 22 = .ok (.ireturn, 1) := by decide +kernel
theorem dX3_init_0 : decode cX3_init 0 = .ok (.aload_n 0, 1) := by decide +kernel
theorem dX3_init_1 : decode cX3_init 1 = .ok (.invokespecial 3, 3) := by decide +kernel
theorem dX3_init_4 : decode cX3_init 4 = .ok (.aload_n 0, 1) := by decide +kernel
theorem dX3_init_5 : decode cX3_init 5 = .ok (.bipush 6, 2) := by decide +kernel
theorem dX3_init_7 : decode cX3_init 7 = .ok (.newarray .int, 2) := by decide +kernel
theorem dX3_init_9 : decode cX3_init 9 = .ok (.putfield 9, 3) := by decide +kernel
theorem dX3_init_12 : decode cX3_init 12 = .ok (.aload_n 0, 1) := by decide +kernel
theorem dX3_init_13 : decode cX3_init 13 = .ok (.bipush 6, 2) := by decide +kernel
theorem dX3_init_15 : decode cX3_init 15 = .ok (.newarray .int, 2) := by decide +kernel
theorem dX3_init_17 : decode cX3_init 17 = .ok (.putfield 15, 3) := by decide +kernel
theorem dX3_init_20 : decode cX3_init 20 = .ok (.aload_n 0, 1) := by decide +kernel
theorem dX3_init_21 : decode cX3_init 21 = .ok (.bipush 6, 2) := by decide +kernel
theorem dX3_init_23 : decode cX3_init 23 = .ok (.newarray .int, 2) := by decide +kernel
theorem dX3_init_25 : decode cX3_init 25 = .ok (.putfield 18, 3) := by decide +kernel
theorem dX3_init_28 : decode cX3_init 28 = .ok (.aload_n 0, 1) := by decide +kernel
theorem dX3_init_29 : decode cX3_init 29 = .ok (.bipush 6, 2) := by decide +kernel
theorem dX3_init_31 : decode cX3_init 31 = .ok (.newarray .int, 2) := by decide +kernel
theorem dX3_init_33 : decode cX3_init 33 = .ok (.putfield 21, 3) := by decide +kernel
theorem dX3_init_36 : decode cX3_init 36 = .ok (.aload_n 0, 1) := by decide +kernel
theorem dX3_init_37 : decode cX3_init 37 = .ok (.iconst 0, 1) := by decide +kernel
theorem dX3_init_38 : decode cX3_init 38 = .ok (.putfield 24, 3) := by decide +kernel
theorem dX3_init_41 : decode cX3_init 41 = .ok (.aload_n 0, 1) := by decide +kernel
theorem dX3_init_42 : decode cX3_init 42 = .ok (.iload_n 1, 1) := by decide +kernel
theorem dX3_init_43 : decode cX3_init 43 = .ok (.putfield 28, 3) := by decide +kernel
theorem dX3_init_46 : decode cX3_init 46 = .ok (.return_, 1) := by decide +kernel
theorem dX3_append_0 : decode cX3_append 0 = .ok (.aload_n 0, 1) := by decide +kernel
theorem dX3_append_1 : decode cX3_append 1 = .ok (.getfield 24, 3) := by decide +kernel
theorem dX3_append_4 : decode cX3_append 4 = .ok (.bipush 6, 2) := by decide +kernel
theorem dX3_append_6 : decode cX3_append 6 = .ok (.if_icmp .ge 54, 3) := by decide +kernel
theorem dX3_append_9 : decode cX3_append 9 = .ok (.aload_n 0, 1) := by decide +kernel
theorem dX3_append_10 : decode cX3_append 10 = .ok (.getfield 9, 3) := by decide +kernel
theorem dX3_append_13 : decode cX3_append 13 = .ok (.aload_n 0, 1) := by decide +kernel
theorem dX3_append_14 : decode cX3_append 14 = .ok (.getfield 24, 3) := by decide +kernel
theorem dX3_append_17 : decode cX3_append 17 = .ok (.iload_n 1, 1) := by decide +kernel
theorem dX3_append_18 : decode cX3_append 18 = .ok (.iastore, 1) := by decide +kernel
theorem dX3_append_19 : decode cX3_append 19 = .ok (.aload_n 0, 1) := by decide +kernel
theorem dX3_append_20 : decode cX3_append 20 = .ok (.getfield 15, 3) := by decide +kernel
theorem dX3_append_23 : decode cX3_append 23 = .ok (.aload_n 0, 1) := by decide +kernel
theorem dX3_append_24 : decode cX3_append 24 = .ok (.getfield 24, 3) := by decide +kernel
theorem dX3_append_27 : decode cX3_append 27 = .ok (.iload_n 2, 1) := by decide +kernel
theorem dX3_append_28 : decode cX3_append 28 = .ok (.iastore, 1) := by decide +kernel
theorem dX3_append_29 : decode cX3_append 29 = .ok (.aload_n 0, 1) := by decide +kernel
theorem dX3_append_30 : decode cX3_append 30 = .ok (.getfield 18, 3) := by decide +kernel
theorem dX3_append_33 : decode cX3_append 33 = .ok (.aload_n 0, 1) := by decide +kernel
theorem dX3_append_34 : decode cX3_append 34 = .ok (.getfield 24, 3) := by decide +kernel
theorem dX3_append_37 : decode cX3_append 37 = .ok (.iload_n 3, 1) := by decide +kernel
theorem dX3_append_38 : decode cX3_append 38 = .ok (.iastore, 1) := by decide +kernel
theorem dX3_append_39 : decode cX3_append 39 = .ok (.aload_n 0, 1) := by decide +kernel
theorem dX3_append_40 : decode cX3_append 40 = .ok (.getfield 21, 3) := by decide +kernel
theorem dX3_append_43 : decode cX3_append 43 = .ok (.aload_n 0, 1) := by decide +kernel
theorem dX3_append_44 : decode cX3_append 44 = .ok (.getfield 24, 3) := by decide +kernel
theorem dX3_append_47 : decode cX3_append 47 = .ok (.iload 4, 2) := by decide +kernel
theorem dX3_append_49 : decode cX3_append 49 = .ok (.iastore, 1) := by decide +kernel
theorem dX3_append_50 : decode cX3_append 50 = .ok (.aload_n 0, 1) := by decide +kernel
theorem dX3_append_51 : decode cX3_append 51 = .ok (.dup, 1) := by decide +kernel
theorem dX3_append_52 : decode cX3_append 52 = .ok (.getfield 24, 3) := by decide +kernel
theorem dX3_append_55 : decode cX3_append 55 = .ok (.iconst 1, 1) := by decide +kernel
theorem dX3_append_56 : decode cX3_append 56 = .ok (.iadd, 1) := by decide +kernel
theorem dX3_append_57 : decode cX3_append 57 = .ok (.putfield 24, 3) := by decide +kernel
theorem dX3_append_60 : decode cX3_append 60 = .ok (.return_, 1) := by decide +kernel
set_option maxRecDepth 20000 in
theorem ggX3_timesFor_X5_forGauge : GoodIn wsX3_timesFor wsX5_forGauge := goodIn_r _ [8] (by decide +kernel) (by decide +kernel)
set_option maxRecDepth 20000 in
theorem gX3_timesFor_X5_forGauge_n31 : GoodIn wsX3_timesFor (wsX5_forGauge) := ggX3_timesFor_X5_forGauge
theorem dX3_timesFor_0 : decode cX3_timesFor 0 = .ok (.iconst 1, 1) := by decide +kernel
theorem dX3_timesFor_1 : decode cX3_timesFor 1 = .ok (.aload_n 0, 1) := by decide +kernel
theorem dX3_timesFor_2 : decode cX3_timesFor 2 = .ok (.getfield 21, 3) := by decide +kernel
theorem dX3_timesFor_5 : decode cX3_timesFor 5 = .ok (.iload_n 2, 1) := by decide +kernel
theorem dX3_timesFor_6 : decode cX3_timesFor 6 = .ok (.iaload, 1) := by decide +kernel
theorem dX3_timesFor_7 : decode cX3_timesFor 7 = .ok (.iload_n 1, 1) := by decide +kernel
theorem dX3_timesFor_8 : decode cX3_timesFor 8 = .ok (.invokestatic 31, 3) := by decide +kernel
theorem dX3_timesFor_11 : decode cX3_timesFor 11 = .ok (.invokestatic 35, 3) := by decide +kernel
theorem dX3_timesFor_14 : decode cX3_timesFor 14 = .ok (.ireturn, 1) := by decide +kernel
set_option maxRecDepth 20000 in
theorem ggX3_rowsFor_X3_timesFor : GoodIn wsX3_rowsFor wsX3_timesFor := goodIn_r _ [6, 7, 8, 9, 10, 11, 12, 13, 14, 15, 16, 17, 18, 19, 20] (by decide +kernel) (by decide +kernel)
set_option maxRecDepth 20000 in
theorem gX3_rowsFor_X3_timesFor : GoodIn wsX3_rowsFor (wsV RX3 40 RX3 yX3_timesFor wsX3_timesFor) := goodIn_app (goodIn_of _ (by decide +kernel)) ggX3_rowsFor_X3_timesFor
theorem dX3_rowsFor_0 : decode cX3_rowsFor 0 = .ok (.iconst 0, 1) := by decide +kernel
theorem dX3_rowsFor_1 : decode cX3_rowsFor 1 = .ok (.istore_n 2, 1) := by decide +kernel
theorem dX3_rowsFor_2 : decode cX3_rowsFor 2 = .ok (.iconst 0, 1) := by decide +kernel
theorem dX3_rowsFor_3 : decode cX3_rowsFor 3 = .ok (.istore_n 3, 1) := by decide +kernel
theorem dX3_rowsFor_4 : decode cX3_rowsFor 4 = .ok (.iload_n 3, 1) := by decide +kernel
theorem dX3_rowsFor_5 : decode cX3_rowsFor 5 = .ok (.aload_n 0, 1) := by decide +kernel
theorem dX3_rowsFor_6 : decode cX3_rowsFor 6 = .ok (.getfield 24, 3) := by decide +kernel
theorem dX3_rowsFor_9 : decode cX3_rowsFor 9 = .ok (.if_icmp .ge 18, 3) := by decide +kernel
theorem dX3_rowsFor_12 : decode cX3_rowsFor 12 = .ok (.iload_n 2, 1) := by decide +kernel
theorem dX3_rowsFor_13 : decode cX3_rowsFor 13 = .ok (.aload_n 0, 1) := by decide +kernel
theorem dX3_rowsFor_14 : decode cX3_rowsFor 14 = .ok (.iload_n 1, 1) := by decide +kernel
theorem dX3_rowsFor_15 : decode cX3_rowsFor 15 = .ok (.iload_n 3, 1) := by decide +kernel
theorem dX3_rowsFor_16 : decode cX3_rowsFor 16 = .ok (.invokevirtual 40, 3) := by decide +kernel
theorem dX3_rowsFor_19 : decode cX3_rowsFor 19 = .ok (.iadd, 1) := by decide +kernel
theorem dX3_rowsFor_20 : decode cX3_rowsFor 20 = .ok (.istore_n 2, 1) := by decide +kernel
theorem dX3_rowsFor_21 : decode cX3_rowsFor 21 = .ok (.iinc 3 1, 3) := by decide +kernel
theorem dX3_rowsFor_24 : decode cX3_rowsFor 24 = .ok (.goto (-20), 3) := by decide +kernel
theorem dX3_rowsFor_27 : decode cX3_rowsFor 27 = .ok (.iload_n 2, 1) := by decide +kernel
theorem dX3_rowsFor_28 : decode cX3_rowsFor 28 = .ok (.ireturn, 1) := by decide +kernel
set_option maxRecDepth 20000 in
theorem ggX3_workTo_X3_workAlong : GoodIn wsX3_workTo wsX3_workAlong := goodIn_r _ [9, 10, 11, 25, 26, 27, 28, 29, 30] (by decide +kernel) (by decide +kernel)
set_option maxRecDepth 20000 in
theorem gX3_workTo_X3_workAlong : GoodIn wsX3_workTo (wsV RX3 43 RX3 yX3_workAlong wsX3_workAlong) := goodIn_app (goodIn_of _ (by decide +kernel)) ggX3_workTo_X3_workAlong
set_option maxRecDepth 20000 in
theorem ggX3_workTo_X5_widthAfter : GoodIn wsX3_workTo wsX5_widthAfter := goodIn_r _ [14, 15, 16, 13, 17, 18, 19, 20, 21, 22, 23, 24] (by decide +kernel) (by decide +kernel)
set_option maxRecDepth 20000 in
theorem gX3_workTo_X5_widthAfter_n46 : GoodIn wsX3_workTo (wsX5_widthAfter) := ggX3_workTo_X5_widthAfter
theorem dX3_workTo_0 : decode cX3_workTo 0 = .ok (.aload_n 0, 1) := by decide +kernel
theorem dX3_workTo_1 : decode cX3_workTo 1 = .ok (.getfield 28, 3) := by decide +kernel
theorem dX3_workTo_4 : decode cX3_workTo 4 = .ok (.istore_n 3, 1) := by decide +kernel
theorem dX3_workTo_5 : decode cX3_workTo 5 = .ok (.iconst 0, 1) := by decide +kernel
theorem dX3_workTo_6 : decode cX3_workTo 6 = .ok (.istore 4, 2) := by decide +kernel
theorem dX3_workTo_8 : decode cX3_workTo 8 = .ok (.iconst 0, 1) := by decide +kernel
theorem dX3_workTo_9 : decode cX3_workTo 9 = .ok (.istore 5, 2) := by decide +kernel
theorem dX3_workTo_11 : decode cX3_workTo 11 = .ok (.iload 5, 2) := by decide +kernel
theorem dX3_workTo_13 : decode cX3_workTo 13 = .ok (.aload_n 0, 1) := by decide +kernel
theorem dX3_workTo_14 : decode cX3_workTo 14 = .ok (.getfield 24, 3) := by decide +kernel
theorem dX3_workTo_17 : decode cX3_workTo 17 = .ok (.if_icmp .ge 68, 3) := by decide +kernel
theorem dX3_workTo_20 : decode cX3_workTo 20 = .ok (.iconst 0, 1) := by decide +kernel
theorem dX3_workTo_21 : decode cX3_workTo 21 = .ok (.istore 6, 2) := by decide +kernel
theorem dX3_workTo_23 : decode cX3_workTo 23 = .ok (.iload 6, 2) := by decide +kernel
theorem dX3_workTo_25 : decode cX3_workTo 25 = .ok (.aload_n 0, 1) := by decide +kernel
theorem dX3_workTo_26 : decode cX3_workTo 26 = .ok (.getfield 21, 3) := by decide +kernel
theorem dX3_workTo_29 : decode cX3_workTo 29 = .ok (.iload 5, 2) := by decide +kernel
theorem dX3_workTo_31 : decode cX3_workTo 31 = .ok (.iaload, 1) := by decide +kernel
theorem dX3_workTo_32 : decode cX3_workTo 32 = .ok (.if_icmp .ge 47, 3) := by decide +kernel
theorem dX3_workTo_35 : decode cX3_workTo 35 = .ok (.iload 4, 2) := by decide +kernel
theorem dX3_workTo_37 : decode cX3_workTo 37 = .ok (.iload_n 1, 1) := by decide +kernel
theorem dX3_workTo_38 : decode cX3_workTo 38 = .ok (.if_icmp .ne 20, 3) := by decide +kernel
theorem dX3_workTo_41 : decode cX3_workTo 41 = .ok (.iload_n 2, 1) := by decide +kernel
theorem dX3_workTo_42 : decode cX3_workTo 42 = .ok (.iload_n 3, 1) := by decide +kernel
theorem dX3_workTo_43 : decode cX3_workTo 43 = .ok (.if_icmp .ge 13, 3) := by decide +kernel
theorem dX3_workTo_46 : decode cX3_workTo 46 = .ok (.aload_n 0, 1) := by decide +kernel
theorem dX3_workTo_47 : decode cX3_workTo 47 = .ok (.iload 5, 2) := by decide +kernel
theorem dX3_workTo_49 : decode cX3_workTo 49 = .ok (.iload_n 2, 1) := by decide +kernel
theorem dX3_workTo_50 : decode cX3_workTo 50 = .ok (.invokevirtual 43, 3) := by decide +kernel
theorem dX3_workTo_53 : decode cX3_workTo 53 = .ok (.goto 4, 3) := by decide +kernel
theorem dX3_workTo_56 : decode cX3_workTo 56 = .ok (.iconst 0, 1) := by decide +kernel
theorem dX3_workTo_57 : decode cX3_workTo 57 = .ok (.ireturn, 1) := by decide +kernel
theorem dX3_workTo_58 : decode cX3_workTo 58 = .ok (.iload_n 3, 1) := by decide +kernel
theorem dX3_workTo_59 : decode cX3_workTo 59 = .ok (.aload_n 0, 1) := by decide +kernel
theorem dX3_workTo_60 : decode cX3_workTo 60 = .ok (.getfield 18, 3) := by decide +kernel
theorem dX3_workTo_63 : decode cX3_workTo 63 = .ok (.iload 5, 2) := by decide +kernel
theorem dX3_workTo_65 : decode cX3_workTo 65 = .ok (.iaload, 1) := by decide +kernel
theorem dX3_workTo_66 : decode cX3_workTo 66 = .ok (.invokestatic 46, 3) := by decide +kernel
theorem dX3_workTo_69 : decode cX3_workTo 69 = .ok (.istore_n 3, 1) := by decide +kernel
theorem dX3_workTo_70 : decode cX3_workTo 70 = .ok (.iinc 4 1, 3) := by decide +kernel
theorem dX3_workTo_73 : decode cX3_workTo 73 = .ok (.iinc 6 1, 3) := by decide +kernel
theorem dX3_workTo_76 : decode cX3_workTo 76 = .ok (.goto (-53), 3) := by decide +kernel
theorem dX3_workTo_79 : decode cX3_workTo 79 = .ok (.iinc 5 1, 3) := by decide +kernel
theorem dX3_workTo_82 : decode cX3_workTo 82 = .ok (.goto (-71), 3) := by decide +kernel
theorem dX3_workTo_85 : decode cX3_workTo 85 = .ok (.iconst 0, 1) := by decide +kernel
theorem dX3_workTo_86 : decode cX3_workTo 86 = .ok (.ireturn, 1) := by decide +kernel
theorem dX3_workAlong_0 : decode cX3_workAlong 0 = .ok (.aload_n 0, 1) := by decide +kernel
theorem dX3_workAlong_1 : decode cX3_workAlong 1 = .ok (.getfield 9, 3) := by decide +kernel
theorem dX3_workAlong_4 : decode cX3_workAlong 4 = .ok (.iload_n 1, 1) := by decide +kernel
theorem dX3_workAlong_5 : decode cX3_workAlong 5 = .ok (.iaload, 1) := by decide +kernel
theorem dX3_workAlong_6 : decode cX3_workAlong 6 = .ok (.aload_n 0, 1) := by decide +kernel
theorem dX3_workAlong_7 : decode cX3_workAlong 7 = .ok (.getfield 15, 3) := by decide +kernel
theorem dX3_workAlong_10 : decode cX3_workAlong 10 = .ok (.iload_n 1, 1) := by decide +kernel
theorem dX3_workAlong_11 : decode cX3_workAlong 11 = .ok (.iaload, 1) := by decide +kernel
theorem dX3_workAlong_12 : decode cX3_workAlong 12 = .ok (.iadd, 1) := by decide +kernel
theorem dX3_workAlong_13 : decode cX3_workAlong 13 = .ok (.iconst 1, 1) := by decide +kernel
theorem dX3_workAlong_14 : decode cX3_workAlong 14 = .ok (.isub, 1) := by decide +kernel
theorem dX3_workAlong_15 : decode cX3_workAlong 15 = .ok (.istore_n 3, 1) := by decide +kernel
theorem dX3_workAlong_16 : decode cX3_workAlong 16 = .ok (.iconst 0, 1) := by decide +kernel
theorem dX3_workAlong_17 : decode cX3_workAlong 17 = .ok (.istore 4, 2) := by decide +kernel
theorem dX3_workAlong_19 : decode cX3_workAlong 19 = .ok (.iconst 0, 1) := by decide +kernel
theorem dX3_workAlong_20 : decode cX3_workAlong 20 = .ok (.istore 5, 2) := by decide +kernel
theorem dX3_workAlong_22 : decode cX3_workAlong 22 = .ok (.iload 5, 2) := by decide +kernel
theorem dX3_workAlong_24 : decode cX3_workAlong 24 = .ok (.iload_n 2, 1) := by decide +kernel
theorem dX3_workAlong_25 : decode cX3_workAlong 25 = .ok (.if_icmp .ge 25, 3) := by decide +kernel
theorem dX3_workAlong_28 : decode cX3_workAlong 28 = .ok (.iload 4, 2) := by decide +kernel
theorem dX3_workAlong_30 : decode cX3_workAlong 30 = .ok (.iload_n 3, 1) := by decide +kernel
theorem dX3_workAlong_31 : decode cX3_workAlong 31 = .ok (.if_icmp .ge 10, 3) := by decide +kernel
theorem dX3_workAlong_34 : decode cX3_workAlong 34 = .ok (.iload 4, 2) := by decide +kernel
theorem dX3_workAlong_36 : decode cX3_workAlong 36 = .ok (.iconst 1, 1) := by decide +kernel
theorem dX3_workAlong_37 : decode cX3_workAlong 37 = .ok (.iadd, 1) := by decide +kernel
theorem dX3_workAlong_38 : decode cX3_workAlong 38 = .ok (.goto 4, 3) := by decide +kernel
theorem dX3_workAlong_41 : decode cX3_workAlong 41 = .ok (.iconst 0, 1) := by decide +kernel
theorem dX3_workAlong_42 : decode cX3_workAlong 42 = .ok (.istore 4, 2) := by decide +kernel
theorem dX3_workAlong_44 : decode cX3_workAlong 44 = .ok (.iinc 5 1, 3) := by decide +kernel
theorem dX3_workAlong_47 : decode cX3_workAlong 47 = .ok (.goto (-25), 3) := by decide +kernel
theorem dX3_workAlong_50 : decode cX3_workAlong 50 = .ok (.iload 4, 2) := by decide +kernel
theorem dX3_workAlong_52 : decode cX3_workAlong 52 = .ok (.aload_n 0, 1) := by decide +kernel
theorem dX3_workAlong_53 : decode cX3_workAlong 53 = .ok (.getfield 9, 3) := by decide +kernel
theorem dX3_workAlong_56 : decode cX3_workAlong 56 = .ok (.iload_n 1, 1) := by decide +kernel
theorem dX3_workAlong_57 : decode cX3_workAlong 57 = .ok (.iaload, 1) := by decide +kernel
theorem dX3_workAlong_58 : decode cX3_workAlong 58 = .ok (.if_icmp .ge 7, 3) := by decide +kernel
theorem dX3_workAlong_61 : decode cX3_workAlong 61 = .ok (.iconst 1, 1) := by decide +kernel
theorem dX3_workAlong_62 : decode cX3_workAlong 62 = .ok (.goto 4, 3) := by decide +kernel
theorem dX3_workAlong_65 : decode cX3_workAlong 65 = .ok (.iconst 2, 1) := by decide +kernel
theorem dX3_workAlong_66 : decode cX3_workAlong 66 = .ok (.ireturn, 1) := by decide +kernel
theorem dX4_init_0 : decode cX4_init 0 = .ok (.aload_n 0, 1) := by decide +kernel
theorem dX4_init_1 : decode cX4_init 1 = .ok (.invokespecial 1, 3) := by decide +kernel
theorem dX4_init_4 : decode cX4_init 4 = .ok (.aload_n 0, 1) := by decide +kernel
theorem dX4_init_5 : decode cX4_init 5 = .ok (.iconst 0, 1) := by decide +kernel
theorem dX4_init_6 : decode cX4_init 6 = .ok (.putfield 7, 3) := by decide +kernel
theorem dX4_init_9 : decode cX4_init 9 = .ok (.aload_n 0, 1) := by decide +kernel
theorem dX4_init_10 : decode cX4_init 10 = .ok (.iload_n 1, 1) := by decide +kernel
theorem dX4_init_11 : decode cX4_init 11 = .ok (.putfield 13, 3) := by decide +kernel
theorem dX4_init_14 : decode cX4_init 14 = .ok (.aload_n 0, 1) := by decide +kernel
theorem dX4_init_15 : decode cX4_init 15 = .ok (.aload_n 2, 1) := by decide +kernel
theorem dX4_init_16 : decode cX4_init 16 = .ok (.putfield 16, 3) := by decide +kernel
theorem dX4_init_19 : decode cX4_init 19 = .ok (.aload_n 0, 1) := by decide +kernel
theorem dX4_init_20 : decode cX4_init 20 = .ok (.aload_n 3, 1) := by decide +kernel
theorem dX4_init_21 : decode cX4_init 21 = .ok (.putfield 20, 3) := by decide +kernel
theorem dX4_init_24 : decode cX4_init 24 = .ok (.return_, 1) := by decide +kernel
set_option maxRecDepth 20000 in
theorem ggX4_knitUpTo_X4_canKnitRow : GoodIn wsX4_knitUpTo wsX4_canKnitRow := goodIn_r _ [8, 3, 9, 10, 11, 1, 12, 13, 2, 14, 15, 16, 7, 17, 18, 19, 20, 21, 22, 23, 24, 25, 26, 27, 28, 33, 34, 35, 36, 37, 38, 39, 40, 41, 42, 43, 44, 45, 29, 30, 31, 32] (by decide +kernel) (by decide +kernel)
set_option maxRecDepth 20000 in
theorem gX4_knitUpTo_X4_canKnitRow : GoodIn wsX4_knitUpTo (wsV RX4 24 RX4 yX4_canKnitRow wsX4_canKnitRow) := goodIn_app (goodIn_of _ (by decide +kernel)) ggX4_knitUpTo_X4_canKnitRow
set_option maxRecDepth 20000 in
theorem ggX4_knitUpTo_X4_yarnOfNextRow : GoodIn wsX4_knitUpTo wsX4_yarnOfNextRow := goodIn_r _ [17, 1, 18, 9, 10, 3, 19, 20, 21, 22, 23, 24, 25, 26, 27, 28, 29, 30, 31, 32, 33, 34, 35, 36, 37, 38, 39, 40, 41, 42, 43, 44, 45] (by decide +kernel) (by decide +kernel)
set_option maxRecDepth 20000 in
theorem gX4_knitUpTo_X4_yarnOfNextRow : GoodIn wsX4_knitUpTo (wsV RX4 33 RX4 yX4_yarnOfNextRow wsX4_yarnOfNextRow) := goodIn_app (goodIn_of _ (by decide +kernel)) ggX4_knitUpTo_X4_yarnOfNextRow
theorem dX4_knitUpTo_0 : decode cX4_knitUpTo 0 = .ok (.iconst 0, 1) := by decide +kernel
theorem dX4_knitUpTo_1 : decode cX4_knitUpTo 1 = .ok (.istore_n 2, 1) := by decide +kernel
theorem dX4_knitUpTo_2 : decode cX4_knitUpTo 2 = .ok (.iload_n 2, 1) := by decide +kernel
theorem dX4_knitUpTo_3 : decode cX4_knitUpTo 3 = .ok (.iload_n 1, 1) := by decide +kernel
theorem dX4_knitUpTo_4 : decode cX4_knitUpTo 4 = .ok (.if_icmp .ge 42, 3) := by decide +kernel
theorem dX4_knitUpTo_7 : decode cX4_knitUpTo 7 = .ok (.aload_n 0, 1) := by decide +kernel
theorem dX4_knitUpTo_8 : decode cX4_knitUpTo 8 = .ok (.invokevirtual 24, 3) := by decide +kernel
theorem dX4_knitUpTo_11 : decode cX4_knitUpTo 11 = .ok (.ifCond .eq 35, 3) := by decide +kernel
theorem dX4_knitUpTo_14 : decode cX4_knitUpTo 14 = .ok (.aload_n 0, 1) := by decide +kernel
theorem dX4_knitUpTo_15 : decode cX4_knitUpTo 15 = .ok (.getfield 20, 3) := by decide +kernel
theorem dX4_knitUpTo_18 : decode cX4_knitUpTo 18 = .ok (.dup, 1) := by decide +kernel
theorem dX4_knitUpTo_19 : decode cX4_knitUpTo 19 = .ok (.getfield 28, 3) := by decide +kernel
theorem dX4_knitUpTo_22 : decode cX4_knitUpTo 22 = .ok (.aload_n 0, 1) := by decide +kernel
theorem dX4_knitUpTo_23 : decode cX4_knitUpTo 23 = .ok (.invokevirtual 33, 3) := by decide +kernel
theorem dX4_knitUpTo_26 : decode cX4_knitUpTo 26 = .ok (.isub, 1) := by decide +kernel
theorem dX4_knitUpTo_27 : decode cX4_knitUpTo 27 = .ok (.putfield 28, 3) := by decide +kernel
theorem dX4_knitUpTo_30 : decode cX4_knitUpTo 30 = .ok (.aload_n 0, 1) := by decide +kernel
theorem dX4_knitUpTo_31 : decode cX4_knitUpTo 31 = .ok (.dup, 1) := by decide +kernel
theorem dX4_knitUpTo_32 : decode cX4_knitUpTo 32 = .ok (.getfield 7, 3) := by decide +kernel
theorem dX4_knitUpTo_35 : decode cX4_knitUpTo 35 = .ok (.iconst 1, 1) := by decide +kernel
theorem dX4_knitUpTo_36 : decode cX4_knitUpTo 36 = .ok (.iadd, 1) := by decide +kernel
theorem dX4_knitUpTo_37 : decode cX4_knitUpTo 37 = .ok (.putfield 7, 3) := by decide +kernel
theorem dX4_knitUpTo_40 : decode cX4_knitUpTo 40 = .ok (.iinc 2 1, 3) := by decide +kernel
theorem dX4_knitUpTo_43 : decode cX4_knitUpTo 43 = .ok (.goto (-41), 3) := by decide +kernel
theorem dX4_knitUpTo_46 : decode cX4_knitUpTo 46 = .ok (.iload_n 2, 1) := by decide +kernel
theorem dX4_knitUpTo_47 : decode cX4_knitUpTo 47 = .ok (.ireturn, 1) := by decide +kernel
set_option maxRecDepth 20000 in
theorem ggX4_canKnitRow_X4_yarnOfNextRow : GoodIn wsX4_canKnitRow wsX4_yarnOfNextRow := goodIn_r _ [13, 5, 14, 2, 3, 1, 15, 16, 17, 18, 19, 20, 21, 22, 23, 24, 38, 39, 40, 41, 25, 26, 27, 28, 29, 30, 31, 32, 33, 34, 35, 36, 37] (by decide +kernel) (by decide +kernel)
set_option maxRecDepth 20000 in
theorem gX4_canKnitRow_X4_yarnOfNextRow : GoodIn wsX4_canKnitRow (wsV RX4 33 RX4 yX4_yarnOfNextRow wsX4_yarnOfNextRow) := goodIn_app (goodIn_of _ (by decide +kernel)) ggX4_canKnitRow_X4_yarnOfNextRow
theorem dX4_canKnitRow_0 : decode cX4_canKnitRow 0 = .ok (.aload_n 0, 1) := by decide +kernel
theorem dX4_canKnitRow_1 : decode cX4_canKnitRow 1 = .ok (.getfield 7, 3) := by decide +kernel
theorem dX4_canKnitRow_4 : decode cX4_canKnitRow 4 = .ok (.aload_n 0, 1) := by decide +kernel
theorem dX4_canKnitRow_5 : decode cX4_canKnitRow 5 = .ok (.getfield 16, 3) := by decide +kernel
theorem dX4_canKnitRow_8 : decode cX4_canKnitRow 8 = .ok (.getfield 37, 3) := by decide +kernel
theorem dX4_canKnitRow_11 : decode cX4_canKnitRow 11 = .ok (.getfield 43, 3) := by decide +kernel
theorem dX4_canKnitRow_14 : decode cX4_canKnitRow 14 = .ok (.if_icmp .ge 35, 3) := by decide +kernel
theorem dX4_canKnitRow_17 : decode cX4_canKnitRow 17 = .ok (.aload_n 0, 1) := by decide +kernel
theorem dX4_canKnitRow_18 : decode cX4_canKnitRow 18 = .ok (.getfield 20, 3) := by decide +kernel
theorem dX4_canKnitRow_21 : decode cX4_canKnitRow 21 = .ok (.getfield 48, 3) := by decide +kernel
theorem dX4_canKnitRow_24 : decode cX4_canKnitRow 24 = .ok (.aload_n 0, 1) := by decide +kernel
theorem dX4_canKnitRow_25 : decode cX4_canKnitRow 25 = .ok (.getfield 13, 3) := by decide +kernel
theorem dX4_canKnitRow_28 : decode cX4_canKnitRow 28 = .ok (.if_icmp .ne 21, 3) := by decide +kernel
theorem dX4_canKnitRow_31 : decode cX4_canKnitRow 31 = .ok (.aload_n 0, 1) := by decide +kernel
theorem dX4_canKnitRow_32 : decode cX4_canKnitRow 32 = .ok (.getfield 20, 3) := by decide +kernel
theorem dX4_canKnitRow_35 : decode cX4_canKnitRow 35 = .ok (.getfield 28, 3) := by decide +kernel
theorem dX4_canKnitRow_38 : decode cX4_canKnitRow 38 = .ok (.aload_n 0, 1) := by decide +kernel
theorem dX4_canKnitRow_39 : decode cX4_canKnitRow 39 = .ok (.invokevirtual 33, 3) := by decide +kernel
theorem dX4_canKnitRow_42 : decode cX4_canKnitRow 42 = .ok (.if_icmp .lt 7, 3) := by decide +kernel
theorem dX4_canKnitRow_45 : decode cX4_canKnitRow 45 = .ok (.iconst 1, 1) := by decide +kernel
theorem dX4_canKnitRow_46 : decode cX4_canKnitRow 46 = .ok (.goto 4, 3) := by decide +kernel
theorem dX4_canKnitRow_49 : decode cX4_canKnitRow 49 = .ok (.iconst 0, 1) := by decide +kernel
theorem dX4_canKnitRow_50 : decode cX4_canKnitRow 50 = .ok (.ireturn, 1) := by decide +kernel
set_option maxRecDepth 20000 in
theorem ggX4_yarnOfNextRow_X0_yarnOf : GoodIn wsX4_yarnOfNextRow wsX0_yarnOf := goodIn_r _ [10, 11, 29, 30, 31, 32] (by decide +kernel) (by decide +kernel)
set_option maxRecDepth 20000 in
theorem gX4_yarnOfNextRow_X0_yarnOf : GoodIn wsX4_yarnOfNextRow (wsV RX4 52 RX0 yX0_yarnOf wsX0_yarnOf) := goodIn_app (goodIn_of _ (by decide +kernel)) ggX4_yarnOfNextRow_X0_yarnOf
theorem dX4_yarnOfNextRow_0 : decode cX4_yarnOfNextRow 0 = .ok (.aload_n 0, 1) := by decide +kernel
theorem dX4_yarnOfNextRow_1 : decode cX4_yarnOfNextRow 1 = .ok (.getfield 20, 3) := by decide +kernel
theorem dX4_yarnOfNextRow_4 : decode cX4_yarnOfNextRow 4 = .ok (.getfield 49, 3) := by decide +kernel
theorem dX4_yarnOfNextRow_7 : decode cX4_yarnOfNextRow 7 = .ok (.aload_n 0, 1) := by decide +kernel
theorem dX4_yarnOfNextRow_8 : decode cX4_yarnOfNextRow 8 = .ok (.getfield 16, 3) := by decide +kernel
theorem dX4_yarnOfNextRow_11 : decode cX4_yarnOfNextRow 11 = .ok (.getfield 37, 3) := by decide +kernel
theorem dX4_yarnOfNextRow_14 : decode cX4_yarnOfNextRow 14 = .ok (.aload_n 0, 1) := by decide +kernel
theorem dX4_yarnOfNextRow_15 : decode cX4_yarnOfNextRow 15 = .ok (.getfield 7, 3) := by decide +kernel
theorem dX4_yarnOfNextRow_18 : decode cX4_yarnOfNextRow 18 = .ok (.invokevirtual 52, 3) := by decide +kernel
theorem dX4_yarnOfNextRow_21 : decode cX4_yarnOfNextRow 21 = .ok (.imul, 1) := by decide +kernel
theorem dX4_yarnOfNextRow_22 : decode cX4_yarnOfNextRow 22 = .ok (.ireturn, 1) := by decide +kernel
set_option maxRecDepth 20000 in
theorem ggX5_init_Jx4a65c_init_da8c8 : GoodIn wsX5_init wsJx4a65c_init_da8c8 := goodIn_r _ [15, 16, 17, 18, 19, 20, 21, 22, 23, 24, 25, 26, 27, 2, 3, 28, 29, 30] (by decide +kernel) (by decide +kernel)
set_option maxRecDepth 20000 in
theorem gX5_init_Jx4a65c_init_da8c8 : GoodIn wsX5_init (wsJx4a65c_init_da8c8) := ggX5_init_Jx4a65c_init_da8c8
theorem dX5_init_0 : decode cX5_init 0 = .ok (.aload_n 0, 1) := by decide +kernel
theorem dX5_init_1 : decode cX5_init 1 = .ok (.invokespecial 1, 3) := by decide +kernel
theorem dX5_init_4 : decode cX5_init 4 = .ok (.aload_n 0, 1) := by decide +kernel
theorem dX5_init_5 : decode cX5_init 5 = .ok (.new 7, 3) := by decide +kernel
theorem dX5_init_8 : decode cX5_init 8 = .ok (.dup, 1) := by decide +kernel
theorem dX5_init_9 : decode cX5_init 9 = .ok (.invokespecial 9, 3) := by decide +kernel
theorem dX5_init_12 : decode cX5_init 12 = .ok (.putfield 10, 3) := by decide +kernel
theorem dX5_init_15 : decode cX5_init 15 = .ok (.aload_n 0, 1) := by decide +kernel
theorem dX5_init_16 : decode cX5_init 16 = .ok (.new 7, 3) := by decide +kernel
theorem dX5_init_19 : decode cX5_init 19 = .ok (.dup, 1) := by decide +kernel
theorem dX5_init_20 : decode cX5_init 20 = .ok (.invokespecial 9, 3) := by decide +kernel
theorem dX5_init_23 : decode cX5_init 23 = .ok (.putfield 16, 3) := by decide +kernel
theorem dX5_init_26 : decode cX5_init 26 = .ok (.aload_n 0, 1) := by decide +kernel
theorem dX5_init_27 : decode cX5_init 27 = .ok (.new 7, 3) := by decide +kernel
theorem dX5_init_30 : decode cX5_init 30 = .ok (.dup, 1) := by decide +kernel
theorem dX5_init_31 : decode cX5_init 31 = .ok (.invokespecial 9, 3) := by decide +kernel
theorem dX5_init_34 : decode cX5_init 34 = .ok (.putfield 19, 3) := by decide +kernel
theorem dX5_init_37 : decode cX5_init 37 = .ok (.aload_n 0, 1) := by decide +kernel
theorem dX5_init_38 : decode cX5_init 38 = .ok (.new 7, 3) := by decide +kernel
theorem dX5_init_41 : decode cX5_init 41 = .ok (.dup, 1) := by decide +kernel
theorem dX5_init_42 : decode cX5_init 42 = .ok (.invokespecial 9, 3) := by decide +kernel
theorem dX5_init_45 : decode cX5_init 45 = .ok (.putfield 22, 3) := by decide +kernel
theorem dX5_init_48 : decode cX5_init 48 = .ok (.aload_n 0, 1) := by decide +kernel
theorem dX5_init_49 : decode cX5_init 49 = .ok (.iconst 5, 1) := by decide +kernel
theorem dX5_init_50 : decode cX5_init 50 = .ok (.newarray .int, 2) := by decide +kernel
theorem dX5_init_52 : decode cX5_init 52 = .ok (.putfield 25, 3) := by decide +kernel
theorem dX5_init_55 : decode cX5_init 55 = .ok (.return_, 1) := by decide +kernel
set_option maxRecDepth 20000 in
theorem ggX5_begin_X5_checkPerson : GoodIn wsX5_begin wsX5_checkPerson := goodIn_ca (goodIn_r _ [5, 6, 7] (by decide +kernel) (by decide +kernel)) (goodIn_sub (fun _ h => List.mem_cons_of_mem _ (List.mem_append_left _ (List.mem_append_left _ (List.mem_append_right _ h)))) (by decide +kernel))
set_option maxRecDepth 20000 in
theorem gX5_begin_X5_checkPerson : GoodIn wsX5_begin (va_wsS RX5 29 yX5_checkPerson wsX5_checkPerson) := goodIn_app (goodIn_of _ (by decide +kernel)) ggX5_begin_X5_checkPerson
set_option maxRecDepth 20000 in
theorem ggX5_begin_X5_checkRange : GoodIn wsX5_begin wsX5_checkRange := goodIn_ca (goodIn_r _ [10, 11, 12] (by decide +kernel) (by decide +kernel)) (goodIn_sub (fun _ h => List.mem_cons_of_mem _ (List.mem_append_left _ (List.mem_append_right _ h))) (by decide +kernel))
set_option maxRecDepth 20000 in
theorem gX5_begin_X5_checkRange : GoodIn wsX5_begin (va_wsS RX5 33 yX5_checkRange wsX5_checkRange) := goodIn_app (goodIn_of _ (by decide +kernel)) ggX5_begin_X5_checkRange
set_option maxRecDepth 20000 in
theorem ggX5_begin_X5_checkRoomForPattern : GoodIn wsX5_begin wsX5_checkRoomForPattern := goodIn_ca (goodIn_r _ [16, 17, 18, 19, 20, 21, 22, 23, 24, 25, 137, 138, 139, 140, 141, 142, 143, 144] (by decide +kernel) (by decide +kernel)) (goodIn_sub (fun _ h => List.mem_cons_of_mem _ (List.mem_append_right _ h)) (by decide +kernel))
set_option maxRecDepth 20000 in
theorem gX5_begin_X5_checkRoomForPattern : GoodIn wsX5_begin (wsV RX5 37 RX5 yX5_checkRoomForPattern wsX5_checkRoomForPattern) := goodIn_app (goodIn_of _ (by decide +kernel)) ggX5_begin_X5_checkRoomForPattern
set_option maxRecDepth 20000 in
theorem ggX5_begin_X5_addPattern : GoodIn wsX5_begin wsX5_addPattern := goodIn_r _ [29, 30, 31, 32, 19, 20, 21, 22, 23, 24, 25, 33, 34, 35, 36, 37, 38, 39, 40, 41, 42, 43, 44, 45, 46, 47, 48, 49, 50, 51, 52, 53, 54, 55, 56, 57, 58, 59, 60, 61, 62, 63, 64, 65, 66, 67, 68, 69, 70, 71, 72, 73, 74, 75, 76, 77, 78, 79, 80, 81, 82, 83, 84, 85, 86, 87, 88, 89, 90, 91, 92, 93, 94, 95, 96, 97, 98, 99, 100, 101, 102, 103, 104, 105, 106, 107, 108, 109, 110, 111, 112, 113, 114, 115, 116, 117, 118, 119, 120, 121, 122, 123, 124, 125, 126, 127, 128, 129, 130, 131, 132, 133, 134, 135, 136, 137, 138, 139, 140, 141, 142, 143, 144, 145, 146, 147, 148, 149, 150, 151, 152, 153, 154] (by decide +kernel) (by decide +kernel)
set_option maxRecDepth 20000 in
theorem gX5_begin_X5_addPattern : GoodIn wsX5_begin (wsV RX5 40 RX5 yX5_addPattern wsX5_addPattern) := goodIn_app (goodIn_of _ (by decide +kernel)) ggX5_begin_X5_addPattern
theorem dX5_begin_0 : decode cX5_begin 0 = .ok (.iload_n 1, 1) := by decide +kernel
theorem dX5_begin_1 : decode cX5_begin 1 = .ok (.invokestatic 29, 3) := by decide +kernel
theorem dX5_begin_4 : decode cX5_begin 4 = .ok (.iload_n 2, 1) := by decide +kernel
theorem dX5_begin_5 : decode cX5_begin 5 = .ok (.iconst 1, 1) := by decide +kernel
theorem dX5_begin_6 : decode cX5_begin 6 = .ok (.bipush 20, 2) := by decide +kernel
theorem dX5_begin_8 : decode cX5_begin 8 = .ok (.invokestatic 33, 3) := by decide +kernel
theorem dX5_begin_11 : decode cX5_begin 11 = .ok (.iload_n 3, 1) := by decide +kernel
theorem dX5_begin_12 : decode cX5_begin 12 = .ok (.iconst 0, 1) := by decide +kernel
theorem dX5_begin_13 : decode cX5_begin 13 = .ok (.sipush 1000, 3) := by decide +kernel
theorem dX5_begin_16 : decode cX5_begin 16 = .ok (.invokestatic 33, 3) := by decide +kernel
theorem dX5_begin_19 : decode cX5_begin 19 = .ok (.aload_n 0, 1) := by decide +kernel
theorem dX5_begin_20 : decode cX5_begin 20 = .ok (.invokevirtual 37, 3) := by decide +kernel
theorem dX5_begin_23 : decode cX5_begin 23 = .ok (.aload_n 0, 1) := by decide +kernel
theorem dX5_begin_24 : decode cX5_begin 24 = .ok (.iload_n 1, 1) := by decide +kernel
theorem dX5_begin_25 : decode cX5_begin 25 = .ok (.iload_n 2, 1) := by decide +kernel
theorem dX5_begin_26 : decode cX5_begin 26 = .ok (.iload_n 3, 1) := by decide +kernel
theorem dX5_begin_27 : decode cX5_begin 27 = .ok (.invokevirtual 40, 3) := by decide +kernel
theorem dX5_begin_30 : decode cX5_begin 30 = .ok (.getfield 44, 3) := by decide +kernel
theorem dX5_begin_33 : decode cX5_begin 33 = .ok (.ireturn, 1) := by decide +kernel
set_option maxRecDepth 20000 in
theorem ggX5_line_X5_patternAt : GoodIn wsX5_line wsX5_patternAt := goodIn_ca (goodIn_r _ [11, 12, 13, 14, 15, 16, 17, 18, 19, 20, 21, 22, 23, 24, 25, 26, 27, 28, 29, 30, 31, 32, 33, 34, 35, 36, 37, 38, 107, 108, 109, 110, 111, 112, 113, 114] (by decide +kernel) (by decide +kernel)) (goodIn_sub (fun _ h => List.mem_cons_of_mem _ (List.mem_append_right _ h)) (by decide +kernel))
set_option maxRecDepth 20000 in
theorem gX5_line_X5_patternAt : GoodIn wsX5_line (wsV RX5 50 RX5 yX5_patternAt wsX5_patternAt) := goodIn_app (goodIn_of _ (by decide +kernel)) ggX5_line_X5_patternAt
set_option maxRecDepth 20000 in
theorem ggX5_line_X5_checkRange : GoodIn wsX5_line wsX5_checkRange := goodIn_ca (goodIn_r _ [41, 1, 2] (by decide +kernel) (by decide +kernel)) (goodIn_sub (fun _ h => List.mem_cons_of_mem _ (List.mem_append_left _ (List.mem_append_left _ (List.mem_append_right _ h)))) (by decide +kernel))
set_option maxRecDepth 20000 in
theorem gX5_line_X5_checkRange : GoodIn wsX5_line (va_wsS RX5 33 yX5_checkRange wsX5_checkRange) := goodIn_app (goodIn_of _ (by decide +kernel)) ggX5_line_X5_checkRange
set_option maxRecDepth 20000 in
theorem ggX5_line_X2_isPublished : GoodIn wsX5_line wsX2_isPublished := goodIn_r _ [46, 47, 94, 95, 96, 97, 98, 99, 100, 101, 102] (by decide +kernel) (by decide +kernel)
set_option maxRecDepth 20000 in
theorem gX5_line_X2_isPublished : GoodIn wsX5_line (wsV RX5 61 RX2 yX2_isPublished wsX2_isPublished) := goodIn_app (goodIn_of _ (by decide +kernel)) ggX5_line_X2_isPublished
set_option maxRecDepth 20000 in
theorem ggX5_line_X2_takesLine : GoodIn wsX5_line wsX2_takesLine := goodIn_r _ [51, 52, 53, 54, 94, 95, 96, 97, 98, 99, 100, 101, 102, 115, 116, 117, 118, 119, 120, 103, 104, 105, 106] (by decide +kernel) (by decide +kernel)
set_option maxRecDepth 20000 in
theorem gX5_line_X2_takesLine : GoodIn wsX5_line (wsV RX5 65 RX2 yX2_takesLine wsX2_takesLine) := goodIn_app (goodIn_of _ (by decide +kernel)) ggX5_line_X2_takesLine
set_option maxRecDepth 20000 in
theorem ggX5_line_X2_addLine : GoodIn wsX5_line wsX2_addLine := goodIn_r _ [58, 52, 53, 59, 60, 61, 62, 63, 64, 65, 66, 67, 68, 69, 70, 71, 72, 73, 74, 75, 76, 77, 78, 79, 80, 81, 82, 10, 83, 84, 85, 86, 87, 88, 89, 90, 91, 92, 93, 94, 95, 96, 97, 98, 99, 100, 101, 102, 115, 116, 117, 118, 119, 120, 103, 104, 105, 106] (by decide +kernel) (by decide +kernel)
set_option maxRecDepth 20000 in
theorem gX5_line_X2_addLine : GoodIn wsX5_line (wsV RX5 74 RX2 yX2_addLine wsX2_addLine) := goodIn_app (goodIn_of _ (by decide +kernel)) ggX5_line_X2_addLine
theorem dX5_line_0 : decode cX5_line 0 = .ok (.aload_n 0, 1) := by decide +kernel
theorem dX5_line_1 : decode cX5_line 1 = .ok (.iload_n 1, 1) := by decide +kernel
theorem dX5_line_2 : decode cX5_line 2 = .ok (.invokevirtual 50, 3) := by decide +kernel
theorem dX5_line_5 : decode cX5_line 5 = .ok (.astore 6, 2) := by decide +kernel
theorem dX5_line_7 : decode cX5_line 7 = .ok (.iload_n 2, 1) := by decide +kernel
theorem dX5_line_8 : decode cX5_line 8 = .ok (.iconst 0, 1) := by decide +kernel
theorem dX5_line_9 : decode cX5_line 9 = .ok (.bipush 9, 2) := by decide +kernel
theorem dX5_line_11 : decode cX5_line 11 = .ok (.invokestatic 33, 3) := by decide +kernel
theorem dX5_line_14 : decode cX5_line 14 = .ok (.iload_n 3, 1) := by decide +kernel
theorem dX5_line_15 : decode cX5_line 15 = .ok (.iconst 0, 1) := by decide +kernel
theorem dX5_line_16 : decode cX5_line 16 = .ok (.bipush 9, 2) := by decide +kernel
theorem dX5_line_18 : decode cX5_line 18 = .ok (.invokestatic 33, 3) := by decide +kernel
theorem dX5_line_21 : decode cX5_line 21 = .ok (.iload 4, 2) := by decide +kernel
theorem dX5_line_23 : decode cX5_line 23 = .ok (.bipush (-3), 2) := by decide +kernel
theorem dX5_line_25 : decode cX5_line 25 = .ok (.iconst 3, 1) := by decide +kernel
theorem dX5_line_26 : decode cX5_line 26 = .ok (.invokestatic 33, 3) := by decide +kernel
theorem dX5_line_29 : decode cX5_line 29 = .ok (.iload 5, 2) := by decide +kernel
theorem dX5_line_31 : decode cX5_line 31 = .ok (.iconst 1, 1) := by decide +kernel
theorem dX5_line_32 : decode cX5_line 32 = .ok (.bipush 20, 2) := by decide +kernel
theorem dX5_line_34 : decode cX5_line 34 = .ok (.invokestatic 33, 3) := by decide +kernel
theorem dX5_line_37 : decode cX5_line 37 = .ok (.iload_n 2, 1) := by decide +kernel
theorem dX5_line_38 : decode cX5_line 38 = .ok (.ifCond .ne 17, 3) := by decide +kernel
theorem dX5_line_41 : decode cX5_line 41 = .ok (.iload_n 3, 1) := by decide +kernel
theorem dX5_line_42 : decode cX5_line 42 = .ok (.ifCond .ne 13, 3) := by decide +kernel
theorem dX5_line_45 : decode cX5_line 45 = .ok (.new 54, 3) := by decide +kernel
theorem dX5_line_48 : decode cX5_line 48 = .ok (.dup, 1) := by decide +kernel
theorem dX5_line_49 : decode cX5_line 49 = .ok (.ldc 56, 2) := by decide +kernel
theorem dX5_line_51 : decode cX5_line 51 = .ok (.invokespecial 58, 3) := by decide +kernel
theorem dX5_line_54 : decode cX5_line 54 = .ok (.athrow, 1) := by decide +kernel
theorem dX5_line_55 : decode cX5_line 55 = .ok (.aload 6, 2) := by decide +kernel
theorem dX5_line_57 : decode cX5_line 57 = .ok (.invokevirtual 61, 3) := by decide +kernel
theorem dX5_line_60 : decode cX5_line 60 = .ok (.ifCond .ne 13, 3) := by decide +kernel
theorem dX5_line_63 : decode cX5_line 63 = .ok (.aload 6, 2) := by decide +kernel
theorem dX5_line_65 : decode cX5_line 65 = .ok (.iload 5, 2) := by decide +kernel
theorem dX5_line_67 : decode cX5_line 67 = .ok (.invokevirtual 65, 3) := by decide +kernel
theorem dX5_line_70 : decode cX5_line 70 = .ok (.ifCond .ne 13, 3) := by decide +kernel
theorem dX5_line_73 : decode cX5_line 73 = .ok (.new 69, 3) := by decide +kernel
theorem dX5_line_76 : decode cX5_line 76 = .ok (.dup, 1) := by decide +kernel
theorem dX5_line_77 : decode cX5_line 77 = .ok (.ldc 71, 2) := by decide +kernel
theorem dX5_line_79 : decode cX5_line 79 = .ok (.invokespecial 73, 3) := by decide +kernel
theorem dX5_line_82 : decode cX5_line 82 = .ok (.athrow, 1) := by decide +kernel
theorem dX5_line_83 : decode cX5_line 83 = .ok (.aload 6, 2) := by decide +kernel
theorem dX5_line_85 : decode cX5_line 85 = .ok (.iload_n 2, 1) := by decide +kernel
theorem dX5_line_86 : decode cX5_line 86 = .ok (.iload_n 3, 1) := by decide +kernel
theorem dX5_line_87 : decode cX5_line 87 = .ok (.iload 4, 2) := by decide +kernel
theorem dX5_line_89 : decode cX5_line 89 = .ok (.iload 5, 2) := by decide +kernel
theorem dX5_line_91 : decode cX5_line 91 = .ok (.invokevirtual 74, 3) := by decide +kernel
theorem dX5_line_94 : decode cX5_line 94 = .ok (.aload 6, 2) := by decide +kernel
theorem dX5_line_96 : decode cX5_line 96 = .ok (.getfield 78, 3) := by decide +kernel
theorem dX5_line_99 : decode cX5_line 99 = .ok (.getfield 82, 3) := by decide +kernel
theorem dX5_line_102 : decode cX5_line 102 = .ok (.ireturn, 1) := by decide +kernel
set_option maxRecDepth 20000 in
theorem ggX5_anew_X5_patternAt : GoodIn wsX5_anew wsX5_patternAt := goodIn_ca (goodIn_r _ [12, 13, 14, 15, 16, 17, 18, 19, 20, 21, 22, 23, 24, 25, 26, 27, 28, 29, 30, 31, 32, 33, 34, 35, 36, 37, 38, 39, 212, 213, 214, 215, 216, 217, 218, 219] (by decide +kernel) (by decide +kernel)) (goodIn_sub (fun _ h => List.mem_cons_of_mem _ (List.mem_append_left _ (List.mem_append_right _ h))) (by decide +kernel))
set_option maxRecDepth 20000 in
theorem gX5_anew_X5_patternAt : GoodIn wsX5_anew (wsV RX5 50 RX5 yX5_patternAt wsX5_patternAt) := goodIn_app (goodIn_of _ (by decide +kernel)) ggX5_anew_X5_patternAt
set_option maxRecDepth 20000 in
theorem ggX5_anew_X5_checkGauge : GoodIn wsX5_anew wsX5_checkGauge := goodIn_ca (goodIn_r _ [42, 43, 44, 11, 45, 46, 47] (by decide +kernel) (by decide +kernel)) (goodIn_sub (fun _ h => List.mem_cons_of_mem _ (List.mem_append_right _ h)) (by decide +kernel))
set_option maxRecDepth 20000 in
theorem gX5_anew_X5_checkGauge : GoodIn wsX5_anew (va_wsS RX5 87 yX5_checkGauge wsX5_checkGauge) := goodIn_app (goodIn_of _ (by decide +kernel)) ggX5_anew_X5_checkGauge
set_option maxRecDepth 20000 in
theorem ggX5_anew_X2_hasNoLines : GoodIn wsX5_anew wsX2_hasNoLines := goodIn_r _ [52, 53, 197, 198, 199, 200, 201, 202, 203, 204, 205, 206, 207, 208, 209, 210, 211] (by decide +kernel) (by decide +kernel)
set_option maxRecDepth 20000 in
theorem gX5_anew_X2_hasNoLines : GoodIn wsX5_anew (wsV RX5 90 RX2 yX2_hasNoLines wsX2_hasNoLines) := goodIn_app (goodIn_of _ (by decide +kernel)) ggX5_anew_X2_hasNoLines
set_option maxRecDepth 20000 in
theorem ggX5_anew_X3_rowsFor : GoodIn wsX5_anew wsX3_rowsFor := goodIn_r _ [58, 59, 60, 61, 62, 57, 63, 64, 65, 66, 67, 68, 69, 11, 70, 206, 207, 208, 209, 210, 211] (by decide +kernel) (by decide +kernel)
set_option maxRecDepth 20000 in
theorem gX5_anew_X3_rowsFor : GoodIn wsX5_anew (wsV RX5 97 RX3 yX3_rowsFor wsX3_rowsFor) := goodIn_app (goodIn_of _ (by decide +kernel)) ggX5_anew_X3_rowsFor
set_option maxRecDepth 20000 in
theorem ggX5_anew_X5_checkRoomForPattern : GoodIn wsX5_anew wsX5_checkRoomForPattern := goodIn_ca (goodIn_r _ [74, 1, 2, 15, 17, 18, 19, 20, 21, 22, 212, 213, 214, 215, 216, 217, 218, 219] (by decide +kernel) (by decide +kernel)) (goodIn_sub (fun _ h => List.mem_cons_of_mem _ (List.mem_append_left _ (List.mem_append_left _ (List.mem_append_right _ h)))) (by decide +kernel))
set_option maxRecDepth 20000 in
theorem gX5_anew_X5_checkRoomForPattern : GoodIn wsX5_anew (wsV RX5 37 RX5 yX5_checkRoomForPattern wsX5_checkRoomForPattern) := goodIn_app (goodIn_of _ (by decide +kernel)) ggX5_anew_X5_checkRoomForPattern
set_option maxRecDepth 20000 in
theorem ggX5_anew_X5_forGauge : GoodIn wsX5_anew wsX5_forGauge := goodIn_r _ [70] (by decide +kernel) (by decide +kernel)
set_option maxRecDepth 20000 in
theorem gX5_anew_X5_forGauge : GoodIn wsX5_anew (va_wsS RX5 108 yX5_forGauge wsX5_forGauge) := goodIn_app (goodIn_of _ (by decide +kernel)) ggX5_anew_X5_forGauge
set_option maxRecDepth 20000 in
theorem ggX5_anew_X5_within : GoodIn wsX5_anew wsX5_within := goodIn_r _ [78, 79, 66, 67, 68, 80, 81, 82] (by decide +kernel) (by decide +kernel)
set_option maxRecDepth 20000 in
theorem gX5_anew_X5_within : GoodIn wsX5_anew (va_wsS RX5 112 yX5_within wsX5_within) := goodIn_app (goodIn_of _ (by decide +kernel)) ggX5_anew_X5_within
set_option maxRecDepth 20000 in
theorem ggX5_anew_X5_addPattern : GoodIn wsX5_anew wsX5_addPattern := goodIn_r _ [86, 87, 88, 51, 15, 17, 18, 19, 20, 21, 22, 89, 90, 91, 92, 93, 94, 95, 96, 97, 98, 99, 100, 101, 102, 103, 104, 57, 53, 105, 106, 107, 108, 109, 110, 111, 112, 113, 114, 115, 116, 64, 59, 117, 118, 119, 120, 121, 122, 123, 124, 125, 126, 127, 128, 129, 130, 131, 39, 132, 133, 134, 135, 136, 137, 138, 139, 140, 141, 142, 143, 144, 145, 66, 67, 68, 146, 147, 148, 149, 150, 151, 152, 153, 154, 155, 156, 157, 158, 159, 160, 161, 162, 163, 164, 165, 166, 167, 168, 169, 81, 82, 170, 171, 172, 173, 197, 198, 199, 200, 201, 202, 203, 204, 205, 212, 213, 214, 215, 216, 217, 218, 219, 206, 207, 208, 209, 210, 211, 220, 221, 222, 223] (by decide +kernel) (by decide +kernel)
set_option maxRecDepth 20000 in
theorem gX5_anew_X5_addPattern : GoodIn wsX5_anew (wsV RX5 40 RX5 yX5_addPattern wsX5_addPattern) := goodIn_app (goodIn_of _ (by decide +kernel)) ggX5_anew_X5_addPattern
set_option maxRecDepth 20000 in
theorem ggX5_anew_X2_addLinesFor : GoodIn wsX5_anew wsX2_addLinesFor := goodIn_r _ [177, 178, 61, 62, 57, 63, 64, 65, 66, 67, 68, 69, 11, 70, 179, 180, 181, 51, 182, 53, 108, 183, 184, 185, 186, 59, 114, 115, 116, 187, 188, 189, 107, 190, 122, 124, 125, 191, 192, 193, 194, 123, 195, 196, 76, 77, 78, 79, 80, 81, 82, 206, 207, 208, 209, 210, 211, 197, 198, 199, 200, 201, 202, 203, 204, 205, 220, 221, 222, 223] (by decide +kernel) (by decide +kernel)
set_option maxRecDepth 20000 in
theorem gX5_anew_X2_addLinesFor : GoodIn wsX5_anew (wsV RX5 122 RX2 yX2_addLinesFor wsX2_addLinesFor) := goodIn_app (goodIn_of _ (by decide +kernel)) ggX5_anew_X2_addLinesFor
theorem dX5_anew_0 : decode cX5_anew 0 = .ok (.aload_n 0, 1) := by decide +kernel
theorem dX5_anew_1 : decode cX5_anew 1 = .ok (.iload_n 1, 1) := by decide +kernel
theorem dX5_anew_2 : decode cX5_anew 2 = .ok (.invokevirtual 50, 3) := by decide +kernel
theorem dX5_anew_5 : decode cX5_anew 5 = .ok (.astore_n 3, 1) := by decide +kernel
theorem dX5_anew_6 : decode cX5_anew 6 = .ok (.iload_n 2, 1) := by decide +kernel
theorem dX5_anew_7 : decode cX5_anew 7 = .ok (.invokestatic 87, 3) := by decide +kernel
theorem dX5_anew_10 : decode cX5_anew 10 = .ok (.aload_n 3, 1) := by decide +kernel
theorem dX5_anew_11 : decode cX5_anew 11 = .ok (.invokevirtual 90, 3) := by decide +kernel
theorem dX5_anew_14 : decode cX5_anew 14 = .ok (.ifCond .ne 16, 3) := by decide +kernel
theorem dX5_anew_17 : decode cX5_anew 17 = .ok (.aload_n 3, 1) := by decide +kernel
theorem dX5_anew_18 : decode cX5_anew 18 = .ok (.getfield 93, 3) := by decide +kernel
theorem dX5_anew_21 : decode cX5_anew 21 = .ok (.iload_n 2, 1) := by decide +kernel
theorem dX5_anew_22 : decode cX5_anew 22 = .ok (.invokevirtual 97, 3) := by decide +kernel
theorem dX5_anew_25 : decode cX5_anew 25 = .ok (.bipush 40, 2) := by decide +kernel
theorem dX5_anew_27 : decode cX5_anew 27 = .ok (.if_icmp .le 13, 3) := by decide +kernel
theorem dX5_anew_30 : decode cX5_anew 30 = .ok (.new 69, 3) := by decide +kernel
theorem dX5_anew_33 : decode cX5_anew 33 = .ok (.dup, 1) := by decide +kernel
theorem dX5_anew_34 : decode cX5_anew 34 = .ok (.ldc 103, 2) := by decide +kernel
theorem dX5_anew_36 : decode cX5_anew 36 = .ok (.invokespecial 73, 3) := by decide +kernel
theorem dX5_anew_39 : decode cX5_anew 39 = .ok (.athrow, 1) := by decide +kernel
theorem dX5_anew_40 : decode cX5_anew 40 = .ok (.aload_n 0, 1) := by decide +kernel
theorem dX5_anew_41 : decode cX5_anew 41 = .ok (.invokevirtual 37, 3) := by decide +kernel
theorem dX5_anew_44 : decode cX5_anew 44 = .ok (.aload_n 3, 1) := by decide +kernel
theorem dX5_anew_45 : decode cX5_anew 45 = .ok (.getfield 93, 3) := by decide +kernel
theorem dX5_anew_48 : decode cX5_anew 48 = .ok (.getfield 105, 3) := by decide +kernel
theorem dX5_anew_51 : decode cX5_anew 51 = .ok (.iload_n 2, 1) := by decide +kernel
theorem dX5_anew_52 : decode cX5_anew 52 = .ok (.invokestatic 108, 3) := by decide +kernel
theorem dX5_anew_55 : decode cX5_anew 55 = .ok (.iconst 1, 1) := by decide +kernel
theorem dX5_anew_56 : decode cX5_anew 56 = .ok (.bipush 20, 2) := by decide +kernel
theorem dX5_anew_58 : decode cX5_anew 58 = .ok (.invokestatic 112, 3) := by decide +kernel
theorem dX5_anew_61 : decode cX5_anew 61 = .ok (.istore 4, 2) := by decide +kernel
theorem dX5_anew_63 : decode cX5_anew 63 = .ok (.aload_n 0, 1) := by decide +kernel
theorem dX5_anew_64 : decode cX5_anew 64 = .ok (.aload_n 3, 1) := by decide +kernel
theorem dX5_anew_65 : decode cX5_anew 65 = .ok (.getfield 116, 3) := by decide +kernel
theorem dX5_anew_68 : decode cX5_anew 68 = .ok (.iload 4, 2) := by decide +kernel
theorem dX5_anew_70 : decode cX5_anew 70 = .ok (.aload_n 3, 1) := by decide +kernel
theorem dX5_anew_71 : decode cX5_anew 71 = .ok (.getfield 119, 3) := by decide +kernel
theorem dX5_anew_74 : decode cX5_anew 74 = .ok (.invokevirtual 40, 3) := by decide +kernel
theorem dX5_anew_77 : decode cX5_anew 77 = .ok (.astore 5, 2) := by decide +kernel
theorem dX5_anew_79 : decode cX5_anew 79 = .ok (.aload 5, 2) := by decide +kernel
theorem dX5_anew_81 : decode cX5_anew 81 = .ok (.iload_n 2, 1) := by decide +kernel
theorem dX5_anew_82 : decode cX5_anew 82 = .ok (.aload_n 3, 1) := by decide +kernel
theorem dX5_anew_83 : decode cX5_anew 83 = .ok (.getfield 93, 3) := by decide +kernel
theorem dX5_anew_86 : decode cX5_anew 86 = .ok (.invokevirtual 122, 3) := by decide +kernel
theorem dX5_anew_89 : decode cX5_anew 89 = .ok (.aload 5, 2) := by decide +kernel
theorem dX5_anew_91 : decode cX5_anew 91 = .ok (.getfield 44, 3) := by decide +kernel
theorem dX5_anew_94 : decode cX5_anew 94 = .ok (.ireturn, 1) := by decide +kernel
set_option maxRecDepth 20000 in
theorem ggX5_publish_X5_patternAt : GoodIn wsX5_publish wsX5_patternAt := goodIn_ca (goodIn_r _ [10, 11, 12, 13, 14, 15, 16, 17, 18, 19, 20, 21, 22, 23, 24, 25, 26, 27, 28, 29, 30, 31, 32, 33, 34, 35, 36, 37, 123, 124, 125, 126, 127, 128, 129, 130] (by decide +kernel) (by decide +kernel)) (goodIn_sub (fun _ h => List.mem_cons_of_mem _ (List.mem_append_right _ h)) (by decide +kernel))
set_option maxRecDepth 20000 in
theorem gX5_publish_X5_patternAt : GoodIn wsX5_publish (wsV RX5 50 RX5 yX5_patternAt wsX5_patternAt) := goodIn_app (goodIn_of _ (by decide +kernel)) ggX5_publish_X5_patternAt
set_option maxRecDepth 20000 in
theorem ggX5_publish_X2_isPublished : GoodIn wsX5_publish wsX2_isPublished := goodIn_r _ [42, 43, 114, 115, 116, 117, 118, 119, 120, 121, 122] (by decide +kernel) (by decide +kernel)
set_option maxRecDepth 20000 in
theorem gX5_publish_X2_isPublished : GoodIn wsX5_publish (wsV RX5 61 RX2 yX2_isPublished wsX2_isPublished) := goodIn_app (goodIn_of _ (by decide +kernel)) ggX5_publish_X2_isPublished
set_option maxRecDepth 20000 in
theorem ggX5_publish_X2_hasNoLines : GoodIn wsX5_publish wsX2_hasNoLines := goodIn_r _ [47, 48, 114, 115, 116, 117, 118, 119, 120, 121, 122, 131, 132, 133, 134, 135, 136] (by decide +kernel) (by decide +kernel)
set_option maxRecDepth 20000 in
theorem gX5_publish_X2_hasNoLines : GoodIn wsX5_publish (wsV RX5 90 RX2 yX2_hasNoLines wsX2_hasNoLines) := goodIn_app (goodIn_of _ (by decide +kernel)) ggX5_publish_X2_hasNoLines
set_option maxRecDepth 20000 in
theorem ggX5_publish_X5_firstOfSameChart : GoodIn wsX5_publish wsX5_firstOfSameChart := goodIn_r _ [52, 4, 14, 53, 15, 16, 17, 18, 19, 20, 21, 22, 23, 24, 25, 26, 27, 28, 29, 30, 31, 32, 33, 34, 35, 36, 37, 54, 55, 56, 57, 58, 59, 60, 123, 124, 125, 126, 127, 114, 115, 116, 117, 118, 119, 120, 121, 122, 128, 129, 130, 137, 138, 139, 140] (by decide +kernel) (by decide +kernel)
set_option maxRecDepth 20000 in
theorem gX5_publish_X5_firstOfSameChart : GoodIn wsX5_publish (wsV RX5 128 RX5 yX5_firstOfSameChart wsX5_firstOfSameChart) := goodIn_app (goodIn_of _ (by decide +kernel)) ggX5_publish_X5_firstOfSameChart
set_option maxRecDepth 20000 in
theorem ggX5_publish_Jx4a65c_add_9ea2d : GoodIn wsX5_publish wsJx4a65c_add_9ea2d := goodIn_r _ [64, 65, 66, 37, 20, 67, 68, 69, 18, 70, 71, 72, 73, 74, 75, 76, 77, 78, 79, 80, 81, 82, 83, 84, 85, 86, 87, 88, 89, 90, 91, 92, 93, 94, 95, 96, 97, 98, 99, 100, 101, 102, 103, 104, 105, 106, 107, 108, 109, 110, 111, 112, 113, 128, 129, 130] (by decide +kernel) (by decide +kernel)
set_option maxRecDepth 20000 in
theorem gX5_publish_Jx4a65c_add_9ea2d : GoodIn wsX5_publish (wsV RX5 136 RJx4a65c yJx4a65c_add_9ea2d wsJx4a65c_add_9ea2d) := goodIn_app (goodIn_of _ (by decide +kernel)) ggX5_publish_Jx4a65c_add_9ea2d
theorem dX5_publish_0 : decode cX5_publish 0 = .ok (.aload_n 0, 1) := by decide +kernel
theorem dX5_publish_1 : decode cX5_publish 1 = .ok (.iload_n 1, 1) := by decide +kernel
theorem dX5_publish_2 : decode cX5_publish 2 = .ok (.invokevirtual 50, 3) := by decide +kernel
theorem dX5_publish_5 : decode cX5_publish 5 = .ok (.astore_n 2, 1) := by decide +kernel
theorem dX5_publish_6 : decode cX5_publish 6 = .ok (.aload_n 2, 1) := by decide +kernel
theorem dX5_publish_7 : decode cX5_publish 7 = .ok (.invokevirtual 61, 3) := by decide +kernel
theorem dX5_publish_10 : decode cX5_publish 10 = .ok (.ifCond .ne 10, 3) := by decide +kernel
theorem dX5_publish_13 : decode cX5_publish 13 = .ok (.aload_n 2, 1) := by decide +kernel
theorem dX5_publish_14 : decode cX5_publish 14 = .ok (.invokevirtual 90, 3) := by decide +kernel
theorem dX5_publish_17 : decode cX5_publish 17 = .ok (.ifCond .eq 13, 3) := by decide +kernel
theorem dX5_publish_20 : decode cX5_publish 20 = .ok (.new 69, 3) := by decide +kernel
theorem dX5_publish_23 : decode cX5_publish 23 = .ok (.dup, 1) := by decide +kernel
theorem dX5_publish_24 : decode cX5_publish 24 = .ok (.ldc 126, 2) := by decide +kernel
theorem dX5_publish_26 : decode cX5_publish 26 = .ok (.invokespecial 73, 3) := by decide +kernel
theorem dX5_publish_29 : decode cX5_publish 29 = .ok (.athrow, 1) := by decide +kernel
theorem dX5_publish_30 : decode cX5_publish 30 = .ok (.aload_n 0, 1) := by decide +kernel
theorem dX5_publish_31 : decode cX5_publish 31 = .ok (.aload_n 2, 1) := by decide +kernel
theorem dX5_publish_32 : decode cX5_publish 32 = .ok (.invokevirtual 128, 3) := by decide +kernel
theorem dX5_publish_35 : decode cX5_publish 35 = .ok (.astore_n 3, 1) := by decide +kernel
theorem dX5_publish_36 : decode cX5_publish 36 = .ok (.aload_n 2, 1) := by decide +kernel
theorem dX5_publish_37 : decode cX5_publish 37 = .ok (.aload_n 3, 1) := by decide +kernel
theorem dX5_publish_38 : decode cX5_publish 38 = .ok (.putfield 132, 3) := by decide +kernel
theorem dX5_publish_41 : decode cX5_publish 41 = .ok (.aload_n 0, 1) := by decide +kernel
theorem dX5_publish_42 : decode cX5_publish 42 = .ok (.getfield 16, 3) := by decide +kernel
theorem dX5_publish_45 : decode cX5_publish 45 = .ok (.aload_n 2, 1) := by decide +kernel
theorem dX5_publish_46 : decode cX5_publish 46 = .ok (.invokevirtual 136, 3) := by decide +kernel
theorem dX5_publish_49 : decode cX5_publish 49 = .ok (.pop, 1) := by decide +kernel
theorem dX5_publish_50 : decode cX5_publish 50 = .ok (.aload_n 3, 1) := by decide +kernel
theorem dX5_publish_51 : decode cX5_publish 51 = .ok (.getfield 44, 3) := by decide +kernel
theorem dX5_publish_54 : decode cX5_publish 54 = .ok (.ireturn, 1) := by decide +kernel
set_option maxRecDepth 20000 in
theorem ggX5_original_X5_patternAt : GoodIn wsX5_original wsX5_patternAt := goodIn_ca (goodIn_r _ [7, 8, 9, 10, 11, 12, 13, 14, 15, 16, 17, 18, 19, 20, 21, 22, 23, 24, 25, 26, 27, 28, 29, 30, 31, 32, 33, 34, 44, 45, 46, 47, 48, 49, 50, 51] (by decide +kernel) (by decide +kernel)) (goodIn_sub (fun _ h => List.mem_cons_of_mem _ (List.mem_append_right _ h)) (by decide +kernel))
set_option maxRecDepth 20000 in
theorem gX5_original_X5_patternAt : GoodIn wsX5_original (wsV RX5 50 RX5 yX5_patternAt wsX5_patternAt) := goodIn_app (goodIn_of _ (by decide +kernel)) ggX5_original_X5_patternAt
theorem dX5_original_0 : decode cX5_original 0 = .ok (.aload_n 0, 1) := by decide +kernel
theorem dX5_original_1 : decode cX5_original 1 = .ok (.iload_n 1, 1) := by decide +kernel
theorem dX5_original_2 : decode cX5_original 2 = .ok (.invokevirtual 50, 3) := by decide +kernel
theorem dX5_original_5 : decode cX5_original 5 = .ok (.getfield 132, 3) := by decide +kernel
theorem dX5_original_8 : decode cX5_original 8 = .ok (.astore_n 2, 1) := by decide +kernel
theorem dX5_original_9 : decode cX5_original 9 = .ok (.aload_n 2, 1) := by decide +kernel
theorem dX5_original_10 : decode cX5_original 10 = .ok (.ifnonnull 7, 3) := by decide +kernel
theorem dX5_original_13 : decode cX5_original 13 = .ok (.iconst (-1), 1) := by decide +kernel
theorem dX5_original_14 : decode cX5_original 14 = .ok (.goto 7, 3) := by decide +kernel
theorem dX5_original_17 : decode cX5_original 17 = .ok (.aload_n 2, 1) := by decide +kernel
theorem dX5_original_18 : decode cX5_original 18 = .ok (.getfield 44, 3) := by decide +kernel
theorem dX5_original_21 : decode cX5_original 21 = .ok (.ireturn, 1) := by decide +kernel
set_option maxRecDepth 20000 in
theorem ggX5_rows_X5_patternAt : GoodIn wsX5_rows wsX5_patternAt := goodIn_ca (goodIn_r _ [7, 8, 9, 10, 11, 12, 13, 14, 15, 16, 17, 18, 19, 20, 21, 22, 23, 24, 25, 26, 27, 28, 29, 30, 31, 32, 33, 34, 48, 49, 50, 51, 52, 53, 54, 55] (by decide +kernel) (by decide +kernel)) (goodIn_sub (fun _ h => List.mem_cons_of_mem _ (List.mem_append_right _ h)) (by decide +kernel))
set_option maxRecDepth 20000 in
theorem gX5_rows_X5_patternAt : GoodIn wsX5_rows (wsV RX5 50 RX5 yX5_patternAt wsX5_patternAt) := goodIn_app (goodIn_of _ (by decide +kernel)) ggX5_rows_X5_patternAt
theorem dX5_rows_0 : decode cX5_rows 0 = .ok (.aload_n 0, 1) := by decide +kernel
theorem dX5_rows_1 : decode cX5_rows 1 = .ok (.iload_n 1, 1) := by decide +kernel
theorem dX5_rows_2 : decode cX5_rows 2 = .ok (.invokevirtual 50, 3) := by decide +kernel
theorem dX5_rows_5 : decode cX5_rows 5 = .ok (.getfield 78, 3) := by decide +kernel
theorem dX5_rows_8 : decode cX5_rows 8 = .ok (.getfield 82, 3) := by decide +kernel
theorem dX5_rows_11 : decode cX5_rows 11 = .ok (.ireturn, 1) := by decide +kernel
set_option maxRecDepth 20000 in
theorem ggX5_stitch_X5_patternAt : GoodIn wsX5_stitch wsX5_patternAt := goodIn_ca (goodIn_r _ [6, 7, 8, 9, 10, 11, 12, 13, 14, 15, 16, 17, 18, 19, 20, 21, 22, 23, 24, 25, 26, 27, 28, 29, 30, 31, 32, 33, 53, 54, 55, 56, 57, 58, 59, 60] (by decide +kernel) (by decide +kernel)) (goodIn_sub (fun _ h => List.mem_cons_of_mem _ (List.mem_append_right _ h)) (by decide +kernel))
set_option maxRecDepth 20000 in
theorem gX5_stitch_X5_patternAt : GoodIn wsX5_stitch (wsV RX5 50 RX5 yX5_patternAt wsX5_patternAt) := goodIn_app (goodIn_of _ (by decide +kernel)) ggX5_stitch_X5_patternAt
set_option maxRecDepth 20000 in
theorem ggX5_stitch_X5_checkPlace : GoodIn wsX5_stitch wsX5_checkPlace := goodIn_ca (goodIn_r _ [36, 7, 8, 1, 37, 44, 45, 46, 47, 48, 49, 50, 51, 52, 61, 62, 63, 64] (by decide +kernel) (by decide +kernel)) (goodIn_sub (fun _ h => List.mem_cons_of_mem _ (List.mem_append_right _ h)) (by decide +kernel))
set_option maxRecDepth 20000 in
theorem gX5_stitch_X5_checkPlace : GoodIn wsX5_stitch (va_wsS RX5 140 yX5_checkPlace wsX5_checkPlace) := goodIn_app (goodIn_of _ (by decide +kernel)) ggX5_stitch_X5_checkPlace
set_option maxRecDepth 20000 in
theorem ggX5_stitch_X0_stitchAt : GoodIn wsX5_stitch wsX0_stitchAt := goodIn_r _ [42, 43, 61, 62, 63, 64] (by decide +kernel) (by decide +kernel)
set_option maxRecDepth 20000 in
theorem gX5_stitch_X0_stitchAt : GoodIn wsX5_stitch (wsV RX5 144 RX0 yX0_stitchAt wsX0_stitchAt) := goodIn_app (goodIn_of _ (by decide +kernel)) ggX5_stitch_X0_stitchAt
theorem dX5_stitch_0 : decode cX5_stitch 0 = .ok (.aload_n 0, 1) := by decide +kernel
theorem dX5_stitch_1 : decode cX5_stitch 1 = .ok (.iload_n 1, 1) := by decide +kernel
theorem dX5_stitch_2 : decode cX5_stitch 2 = .ok (.invokevirtual 50, 3) := by decide +kernel
theorem dX5_stitch_5 : decode cX5_stitch 5 = .ok (.astore 4, 2) := by decide +kernel
theorem dX5_stitch_7 : decode cX5_stitch 7 = .ok (.aload 4, 2) := by decide +kernel
theorem dX5_stitch_9 : decode cX5_stitch 9 = .ok (.iload_n 2, 1) := by decide +kernel
theorem dX5_stitch_10 : decode cX5_stitch 10 = .ok (.iload_n 3, 1) := by decide +kernel
theorem dX5_stitch_11 : decode cX5_stitch 11 = .ok (.invokestatic 140, 3) := by decide +kernel
theorem dX5_stitch_14 : decode cX5_stitch 14 = .ok (.aload 4, 2) := by decide +kernel
theorem dX5_stitch_16 : decode cX5_stitch 16 = .ok (.getfield 78, 3) := by decide +kernel
theorem dX5_stitch_19 : decode cX5_stitch 19 = .ok (.iload_n 2, 1) := by decide +kernel
theorem dX5_stitch_20 : decode cX5_stitch 20 = .ok (.iload_n 3, 1) := by decide +kernel
theorem dX5_stitch_21 : decode cX5_stitch 21 = .ok (.invokevirtual 144, 3) := by decide +kernel
theorem dX5_stitch_24 : decode cX5_stitch 24 = .ok (.ireturn, 1) := by decide +kernel
set_option maxRecDepth 20000 in
theorem ggX5_stitchByWork_X5_patternAt : GoodIn wsX5_stitchByWork wsX5_patternAt := goodIn_ca (goodIn_r _ [6, 7, 8, 9, 10, 11, 12, 13, 14, 15, 16, 17, 18, 19, 20, 21, 22, 23, 24, 25, 26, 27, 28, 29, 30, 31, 32, 33, 75, 76, 77, 78, 79, 80, 81, 82] (by decide +kernel) (by decide +kernel)) (goodIn_sub (fun _ h => List.mem_cons_of_mem _ (List.mem_append_right _ h)) (by decide +kernel))
set_option maxRecDepth 20000 in
theorem gX5_stitchByWork_X5_patternAt : GoodIn wsX5_stitchByWork (wsV RX5 50 RX5 yX5_patternAt wsX5_patternAt) := goodIn_app (goodIn_of _ (by decide +kernel)) ggX5_stitchByWork_X5_patternAt
set_option maxRecDepth 20000 in
theorem ggX5_stitchByWork_X5_checkPlace : GoodIn wsX5_stitchByWork wsX5_checkPlace := goodIn_ca (goodIn_r _ [36, 7, 8, 37, 38, 66, 67, 68, 69, 70, 71, 72, 73, 74, 83, 84, 85, 86] (by decide +kernel) (by decide +kernel)) (goodIn_sub (fun _ h => List.mem_cons_of_mem _ (List.mem_append_right _ h)) (by decide +kernel))
set_option maxRecDepth 20000 in
theorem gX5_stitchByWork_X5_checkPlace : GoodIn wsX5_stitchByWork (va_wsS RX5 140 yX5_checkPlace wsX5_checkPlace) := goodIn_app (goodIn_of _ (by decide +kernel)) ggX5_stitchByWork_X5_checkPlace
set_option maxRecDepth 20000 in
theorem ggX5_stitchByWork_X3_workTo : GoodIn wsX5_stitchByWork wsX3_workTo := goodIn_r _ [43, 44, 45, 46, 47, 48, 49, 50, 42, 51, 52, 53, 54, 5, 55, 56, 57, 58, 59, 60, 61, 62, 63, 64, 65, 87, 88, 89, 90, 91, 92] (by decide +kernel) (by decide +kernel)
set_option maxRecDepth 20000 in
theorem gX5_stitchByWork_X3_workTo : GoodIn wsX5_stitchByWork (wsV RX5 147 RX3 yX3_workTo wsX3_workTo) := goodIn_app (goodIn_of _ (by decide +kernel)) ggX5_stitchByWork_X3_workTo
theorem dX5_stitchByWork_0 : decode cX5_stitchByWork 0 = .ok (.aload_n 0, 1) := by decide +kernel
theorem dX5_stitchByWork_1 : decode cX5_stitchByWork 1 = .ok (.iload_n 1, 1) := by decide +kernel
theorem dX5_stitchByWork_2 : decode cX5_stitchByWork 2 = .ok (.invokevirtual 50, 3) := by decide +kernel
theorem dX5_stitchByWork_5 : decode cX5_stitchByWork 5 = .ok (.astore 4, 2) := by decide +kernel
theorem dX5_stitchByWork_7 : decode cX5_stitchByWork 7 = .ok (.aload 4, 2) := by decide +kernel
theorem dX5_stitchByWork_9 : decode cX5_stitchByWork 9 = .ok (.iload_n 2, 1) := by decide +kernel
theorem dX5_stitchByWork_10 : decode cX5_stitchByWork 10 = .ok (.iload_n 3, 1) := by decide +kernel
theorem dX5_stitchByWork_11 : decode cX5_stitchByWork 11 = .ok (.invokestatic 140, 3) := by decide +kernel
theorem dX5_stitchByWork_14 : decode cX5_stitchByWork 14 = .ok (.aload 4, 2) := by decide +kernel
theorem dX5_stitchByWork_16 : decode cX5_stitchByWork 16 = .ok (.getfield 93, 3) := by decide +kernel
theorem dX5_stitchByWork_19 : decode cX5_stitchByWork 19 = .ok (.iload_n 2, 1) := by decide +kernel
theorem dX5_stitchByWork_20 : decode cX5_stitchByWork 20 = .ok (.iload_n 3, 1) := by decide +kernel
theorem dX5_stitchByWork_21 : decode cX5_stitchByWork 21 = .ok (.invokevirtual 147, 3) := by decide +kernel
theorem dX5_stitchByWork_24 : decode cX5_stitchByWork 24 = .ok (.ireturn, 1) := by decide +kernel
set_option maxRecDepth 20000 in
theorem ggX5_need_X5_patternAt : GoodIn wsX5_need wsX5_patternAt := goodIn_ca (goodIn_r _ [6, 7, 8, 9, 10, 11, 12, 13, 14, 15, 16, 17, 18, 19, 20, 21, 22, 23, 24, 25, 26, 27, 28, 29, 30, 31, 32, 33, 58, 59, 60, 61, 62, 63, 64, 65] (by decide +kernel) (by decide +kernel)) (goodIn_sub (fun _ h => List.mem_cons_of_mem _ (List.mem_append_left _ (List.mem_append_right _ h))) (by decide +kernel))
set_option maxRecDepth 20000 in
theorem gX5_need_X5_patternAt : GoodIn wsX5_need (wsV RX5 50 RX5 yX5_patternAt wsX5_patternAt) := goodIn_app (goodIn_of _ (by decide +kernel)) ggX5_need_X5_patternAt
set_option maxRecDepth 20000 in
theorem ggX5_need_X5_checkGauge : GoodIn wsX5_need wsX5_checkGauge := goodIn_ca (goodIn_r _ [36, 37, 38, 5, 39, 40, 41] (by decide +kernel) (by decide +kernel)) (goodIn_sub (fun _ h => List.mem_cons_of_mem _ (List.mem_append_right _ h)) (by decide +kernel))
set_option maxRecDepth 20000 in
theorem gX5_need_X5_checkGauge : GoodIn wsX5_need (va_wsS RX5 87 yX5_checkGauge wsX5_checkGauge) := goodIn_app (goodIn_of _ (by decide +kernel)) ggX5_need_X5_checkGauge
set_option maxRecDepth 20000 in
theorem ggX5_need_X0_yarnOfAllRows : GoodIn wsX5_need wsX0_yarnOfAllRows := goodIn_r _ [46, 47, 48, 66, 67, 68, 69] (by decide +kernel) (by decide +kernel)
set_option maxRecDepth 20000 in
theorem gX5_need_X0_yarnOfAllRows : GoodIn wsX5_need (wsV RX5 150 RX0 yX0_yarnOfAllRows wsX0_yarnOfAllRows) := goodIn_app (goodIn_of _ (by decide +kernel)) ggX5_need_X0_yarnOfAllRows
theorem dX5_need_0 : decode cX5_need 0 = .ok (.aload_n 0, 1) := by decide +kernel
theorem dX5_need_1 : decode cX5_need 1 = .ok (.iload_n 1, 1) := by decide +kernel
theorem dX5_need_2 : decode cX5_need 2 = .ok (.invokevirtual 50, 3) := by decide +kernel
theorem dX5_need_5 : decode cX5_need 5 = .ok (.astore_n 3, 1) := by decide +kernel
theorem dX5_need_6 : decode cX5_need 6 = .ok (.iload_n 2, 1) := by decide +kernel
theorem dX5_need_7 : decode cX5_need 7 = .ok (.invokestatic 87, 3) := by decide +kernel
theorem dX5_need_10 : decode cX5_need 10 = .ok (.iload_n 2, 1) := by decide +kernel
theorem dX5_need_11 : decode cX5_need 11 = .ok (.aload_n 3, 1) := by decide +kernel
theorem dX5_need_12 : decode cX5_need 12 = .ok (.getfield 78, 3) := by decide +kernel
theorem dX5_need_15 : decode cX5_need 15 = .ok (.invokevirtual 150, 3) := by decide +kernel
theorem dX5_need_18 : decode cX5_need 18 = .ok (.imul, 1) := by decide +kernel
theorem dX5_need_19 : decode cX5_need 19 = .ok (.ireturn, 1) := by decide +kernel
set_option maxRecDepth 20000 in
theorem ggX5_buy_X5_patternAt : GoodIn wsX5_buy wsX5_patternAt := goodIn_ca (goodIn_r _ [13, 14, 15, 16, 17, 18, 19, 20, 21, 22, 23, 24, 25, 26, 27, 28, 29, 30, 31, 32, 33, 34, 35, 36, 37, 38, 39, 40, 65, 66, 67, 68, 69, 70, 71, 72] (by decide +kernel) (by decide +kernel)) (goodIn_sub (fun _ h => List.mem_cons_of_mem _ (List.mem_append_right _ h)) (by decide +kernel))
set_option maxRecDepth 20000 in
theorem gX5_buy_X5_patternAt : GoodIn wsX5_buy (wsV RX5 50 RX5 yX5_patternAt wsX5_patternAt) := goodIn_app (goodIn_of _ (by decide +kernel)) ggX5_buy_X5_patternAt
set_option maxRecDepth 20000 in
theorem ggX5_buy_X5_checkPerson : GoodIn wsX5_buy wsX5_checkPerson := goodIn_ca (goodIn_r _ [43, 14, 15] (by decide +kernel) (by decide +kernel)) (goodIn_sub (fun _ h => List.mem_cons_of_mem _ (List.mem_append_right _ h)) (by decide +kernel))
set_option maxRecDepth 20000 in
theorem gX5_buy_X5_checkPerson : GoodIn wsX5_buy (va_wsS RX5 29 yX5_checkPerson wsX5_checkPerson) := goodIn_app (goodIn_of _ (by decide +kernel)) ggX5_buy_X5_checkPerson
set_option maxRecDepth 20000 in
theorem ggX5_buy_X2_isPublished : GoodIn wsX5_buy wsX2_isPublished := goodIn_r _ [48, 49, 56, 57, 58, 59, 60, 61, 62, 63, 64] (by decide +kernel) (by decide +kernel)
set_option maxRecDepth 20000 in
theorem gX5_buy_X2_isPublished : GoodIn wsX5_buy (wsV RX5 61 RX2 yX2_isPublished wsX2_isPublished) := goodIn_app (goodIn_of _ (by decide +kernel)) ggX5_buy_X2_isPublished
set_option maxRecDepth 20000 in
theorem ggX5_buy_X2_mayBeKnittedBy : GoodIn wsX5_buy wsX2_mayBeKnittedBy := goodIn_r _ [53, 54, 55, 56, 57, 58, 59, 60, 61, 62, 63, 64] (by decide +kernel) (by decide +kernel)
set_option maxRecDepth 20000 in
theorem gX5_buy_X2_mayBeKnittedBy : GoodIn wsX5_buy (wsV RX5 158 RX2 yX2_mayBeKnittedBy wsX2_mayBeKnittedBy) := goodIn_app (goodIn_of _ (by decide +kernel)) ggX5_buy_X2_mayBeKnittedBy
theorem dX5_buy_0 : decode cX5_buy 0 = .ok (.aload_n 0, 1) := by decide +kernel
theorem dX5_buy_1 : decode cX5_buy 1 = .ok (.iload_n 1, 1) := by decide +kernel
theorem dX5_buy_2 : decode cX5_buy 2 = .ok (.invokevirtual 50, 3) := by decide +kernel
theorem dX5_buy_5 : decode cX5_buy 5 = .ok (.astore_n 3, 1) := by decide +kernel
theorem dX5_buy_6 : decode cX5_buy 6 = .ok (.iload_n 2, 1) := by decide +kernel
theorem dX5_buy_7 : decode cX5_buy 7 = .ok (.invokestatic 29, 3) := by decide +kernel
theorem dX5_buy_10 : decode cX5_buy 10 = .ok (.aload_n 3, 1) := by decide +kernel
theorem dX5_buy_11 : decode cX5_buy 11 = .ok (.invokevirtual 61, 3) := by decide +kernel
theorem dX5_buy_14 : decode cX5_buy 14 = .ok (.ifCond .eq 18, 3) := by decide +kernel
theorem dX5_buy_17 : decode cX5_buy 17 = .ok (.aload_n 3, 1) := by decide +kernel
theorem dX5_buy_18 : decode cX5_buy 18 = .ok (.getfield 154, 3) := by decide +kernel
theorem dX5_buy_21 : decode cX5_buy 21 = .ok (.ifCond .ne 11, 3) := by decide +kernel
theorem dX5_buy_24 : decode cX5_buy 24 = .ok (.aload_n 3, 1) := by decide +kernel
theorem dX5_buy_25 : decode cX5_buy 25 = .ok (.iload_n 2, 1) := by decide +kernel
theorem dX5_buy_26 : decode cX5_buy 26 = .ok (.invokevirtual 158, 3) := by decide +kernel
theorem dX5_buy_29 : decode cX5_buy 29 = .ok (.ifCond .eq 13, 3) := by decide +kernel
theorem dX5_buy_32 : decode cX5_buy 32 = .ok (.new 69, 3) := by decide +kernel
theorem dX5_buy_35 : decode cX5_buy 35 = .ok (.dup, 1) := by decide +kernel
theorem dX5_buy_36 : decode cX5_buy 36 = .ok (.ldc 161, 2) := by decide +kernel
theorem dX5_buy_38 : decode cX5_buy 38 = .ok (.invokespecial 73, 3) := by decide +kernel
theorem dX5_buy_41 : decode cX5_buy 41 = .ok (.athrow, 1) := by decide +kernel
theorem dX5_buy_42 : decode cX5_buy 42 = .ok (.aload_n 3, 1) := by decide +kernel
theorem dX5_buy_43 : decode cX5_buy 43 = .ok (.getfield 163, 3) := by decide +kernel
theorem dX5_buy_46 : decode cX5_buy 46 = .ok (.iload_n 2, 1) := by decide +kernel
theorem dX5_buy_47 : decode cX5_buy 47 = .ok (.iconst 1, 1) := by decide +kernel
theorem dX5_buy_48 : decode cX5_buy 48 = .ok (.bastore, 1) := by decide +kernel
theorem dX5_buy_49 : decode cX5_buy 49 = .ok (.aload_n 3, 1) := by decide +kernel
theorem dX5_buy_50 : decode cX5_buy 50 = .ok (.dup, 1) := by decide +kernel
theorem dX5_buy_51 : decode cX5_buy 51 = .ok (.getfield 167, 3) := by decide +kernel
theorem dX5_buy_54 : decode cX5_buy 54 = .ok (.aload_n 3, 1) := by decide +kernel
theorem dX5_buy_55 : decode cX5_buy 55 = .ok (.getfield 119, 3) := by decide +kernel
theorem dX5_buy_58 : decode cX5_buy 58 = .ok (.iadd, 1) := by decide +kernel
theorem dX5_buy_59 : decode cX5_buy 59 = .ok (.putfield 167, 3) := by decide +kernel
theorem dX5_buy_62 : decode cX5_buy 62 = .ok (.aload_n 0, 1) := by decide +kernel
theorem dX5_buy_63 : decode cX5_buy 63 = .ok (.getfield 25, 3) := by decide +kernel
theorem dX5_buy_66 : decode cX5_buy 66 = .ok (.iload_n 2, 1) := by decide +kernel
theorem dX5_buy_67 : decode cX5_buy 67 = .ok (.dup2, 1) := by decide +kernel
theorem dX5_buy_68 : decode cX5_buy 68 = .ok (.iaload, 1) := by decide +kernel
theorem dX5_buy_69 : decode cX5_buy 69 = .ok (.aload_n 3, 1) := by decide +kernel
theorem dX5_buy_70 : decode cX5_buy 70 = .ok (.getfield 119, 3) := by decide +kernel
theorem dX5_buy_73 : decode cX5_buy 73 = .ok (.isub, 1) := by decide +kernel
theorem dX5_buy_74 : decode cX5_buy 74 = .ok (.iastore, 1) := by decide +kernel
theorem dX5_buy_75 : decode cX5_buy 75 = .ok (.aload_n 0, 1) := by decide +kernel
theorem dX5_buy_76 : decode cX5_buy 76 = .ok (.getfield 25, 3) := by decide +kernel
theorem dX5_buy_79 : decode cX5_buy 79 = .ok (.aload_n 3, 1) := by decide +kernel
theorem dX5_buy_80 : decode cX5_buy 80 = .ok (.getfield 116, 3) := by decide +kernel
theorem dX5_buy_83 : decode cX5_buy 83 = .ok (.dup2, 1) := by decide +kernel
theorem dX5_buy_84 : decode cX5_buy 84 = .ok (.iaload, 1) := by decide +kernel
theorem dX5_buy_85 : decode cX5_buy 85 = .ok (.aload_n 3, 1) := by decide +kernel
theorem dX5_buy_86 : decode cX5_buy 86 = .ok (.getfield 119, 3) := by decide +kernel
theorem dX5_buy_89 : decode cX5_buy 89 = .ok (.iadd, 1) := by decide +kernel
theorem dX5_buy_90 : decode cX5_buy 90 = .ok (.iastore, 1) := by decide +kernel
theorem dX5_buy_91 : decode cX5_buy 91 = .ok (.aload_n 0, 1) := by decide +kernel
theorem dX5_buy_92 : decode cX5_buy 92 = .ok (.getfield 25, 3) := by decide +kernel
theorem dX5_buy_95 : decode cX5_buy 95 = .ok (.aload_n 3, 1) := by decide +kernel
theorem dX5_buy_96 : decode cX5_buy 96 = .ok (.getfield 116, 3) := by decide +kernel
theorem dX5_buy_99 : decode cX5_buy 99 = .ok (.iaload, 1) := by decide +kernel
theorem dX5_buy_100 : decode cX5_buy 100 = .ok (.ireturn, 1) := by decide +kernel
set_option maxRecDepth 20000 in
theorem ggX5_rule_X5_patternAt : GoodIn wsX5_rule wsX5_patternAt := goodIn_ca (goodIn_r _ [12, 13, 14, 15, 16, 17, 18, 19, 20, 21, 22, 23, 24, 25, 26, 27, 28, 29, 30, 31, 32, 33, 34, 35, 36, 37, 38, 39, 49, 50, 51, 52, 53, 54, 55, 56] (by decide +kernel) (by decide +kernel)) (goodIn_sub (fun _ h => List.mem_cons_of_mem _ (List.mem_append_right _ h)) (by decide +kernel))
set_option maxRecDepth 20000 in
theorem gX5_rule_X5_patternAt : GoodIn wsX5_rule (wsV RX5 50 RX5 yX5_patternAt wsX5_patternAt) := goodIn_app (goodIn_of _ (by decide +kernel)) ggX5_rule_X5_patternAt
theorem dX5_rule_0 : decode cX5_rule 0 = .ok (.aload_n 0, 1) := by decide +kernel
theorem dX5_rule_1 : decode cX5_rule 1 = .ok (.iload_n 1, 1) := by decide +kernel
theorem dX5_rule_2 : decode cX5_rule 2 = .ok (.invokevirtual 50, 3) := by decide +kernel
theorem dX5_rule_5 : decode cX5_rule 5 = .ok (.astore_n 2, 1) := by decide +kernel
theorem dX5_rule_6 : decode cX5_rule 6 = .ok (.aload_n 2, 1) := by decide +kernel
theorem dX5_rule_7 : decode cX5_rule 7 = .ok (.getfield 132, 3) := by decide +kernel
theorem dX5_rule_10 : decode cX5_rule 10 = .ok (.astore_n 3, 1) := by decide +kernel
theorem dX5_rule_11 : decode cX5_rule 11 = .ok (.aload_n 3, 1) := by decide +kernel
theorem dX5_rule_12 : decode cX5_rule 12 = .ok (.ifnull 21, 3) := by decide +kernel
theorem dX5_rule_15 : decode cX5_rule 15 = .ok (.aload_n 3, 1) := by decide +kernel
theorem dX5_rule_16 : decode cX5_rule 16 = .ok (.getfield 116, 3) := by decide +kernel
theorem dX5_rule_19 : decode cX5_rule 19 = .ok (.aload_n 2, 1) := by decide +kernel
theorem dX5_rule_20 : decode cX5_rule 20 = .ok (.getfield 116, 3) := by decide +kernel
theorem dX5_rule_23 : decode cX5_rule 23 = .ok (.if_icmp .eq 10, 3) := by decide +kernel
theorem dX5_rule_26 : decode cX5_rule 26 = .ok (.aload_n 2, 1) := by decide +kernel
theorem dX5_rule_27 : decode cX5_rule 27 = .ok (.getfield 154, 3) := by decide +kernel
theorem dX5_rule_30 : decode cX5_rule 30 = .ok (.ifCond .eq 13, 3) := by decide +kernel
theorem dX5_rule_33 : decode cX5_rule 33 = .ok (.new 69, 3) := by decide +kernel
theorem dX5_rule_36 : decode cX5_rule 36 = .ok (.dup, 1) := by decide +kernel
theorem dX5_rule_37 : decode cX5_rule 37 = .ok (.ldc 170, 2) := by decide +kernel
theorem dX5_rule_39 : decode cX5_rule 39 = .ok (.invokespecial 73, 3) := by decide +kernel
theorem dX5_rule_42 : decode cX5_rule 42 = .ok (.athrow, 1) := by decide +kernel
theorem dX5_rule_43 : decode cX5_rule 43 = .ok (.aload_n 2, 1) := by decide +kernel
theorem dX5_rule_44 : decode cX5_rule 44 = .ok (.iconst 1, 1) := by decide +kernel
theorem dX5_rule_45 : decode cX5_rule 45 = .ok (.putfield 154, 3) := by decide +kernel
theorem dX5_rule_48 : decode cX5_rule 48 = .ok (.aload_n 0, 1) := by decide +kernel
theorem dX5_rule_49 : decode cX5_rule 49 = .ok (.getfield 25, 3) := by decide +kernel
theorem dX5_rule_52 : decode cX5_rule 52 = .ok (.aload_n 2, 1) := by decide +kernel
theorem dX5_rule_53 : decode cX5_rule 53 = .ok (.getfield 116, 3) := by decide +kernel
theorem dX5_rule_56 : decode cX5_rule 56 = .ok (.dup2, 1) := by decide +kernel
theorem dX5_rule_57 : decode cX5_rule 57 = .ok (.iaload, 1) := by decide +kernel
theorem dX5_rule_58 : decode cX5_rule 58 = .ok (.aload_n 2, 1) := by decide +kernel
theorem dX5_rule_59 : decode cX5_rule 59 = .ok (.getfield 167, 3) := by decide +kernel
theorem dX5_rule_62 : decode cX5_rule 62 = .ok (.isub, 1) := by decide +kernel
theorem dX5_rule_63 : decode cX5_rule 63 = .ok (.iastore, 1) := by decide +kernel
theorem dX5_rule_64 : decode cX5_rule 64 = .ok (.aload_n 0, 1) := by decide +kernel
theorem dX5_rule_65 : decode cX5_rule 65 = .ok (.getfield 25, 3) := by decide +kernel
theorem dX5_rule_68 : decode cX5_rule 68 = .ok (.aload_n 3, 1) := by decide +kernel
theorem dX5_rule_69 : decode cX5_rule 69 = .ok (.getfield 116, 3) := by decide +kernel
theorem dX5_rule_72 : decode cX5_rule 72 = .ok (.dup2, 1) := by decide +kernel
theorem dX5_rule_73 : decode cX5_rule 73 = .ok (.iaload, 1) := by decide +kernel
theorem dX5_rule_74 : decode cX5_rule 74 = .ok (.aload_n 2, 1) := by decide +kernel
theorem dX5_rule_75 : decode cX5_rule 75 = .ok (.getfield 167, 3) := by decide +kernel
theorem dX5_rule_78 : decode cX5_rule 78 = .ok (.iadd, 1) := by decide +kernel
theorem dX5_rule_79 : decode cX5_rule 79 = .ok (.iastore, 1) := by decide +kernel
theorem dX5_rule_80 : decode cX5_rule 80 = .ok (.aload_n 2, 1) := by decide +kernel
theorem dX5_rule_81 : decode cX5_rule 81 = .ok (.getfield 167, 3) := by decide +kernel
theorem dX5_rule_84 : decode cX5_rule 84 = .ok (.ireturn, 1) := by decide +kernel
set_option maxRecDepth 20000 in
theorem ggX5_money_X5_checkPerson : GoodIn wsX5_money wsX5_checkPerson := goodIn_ca (goodIn_r _ [5, 6, 7] (by decide +kernel) (by decide +kernel)) (goodIn_sub (fun _ h => List.mem_cons_of_mem _ (List.mem_append_right _ h)) (by decide +kernel))
set_option maxRecDepth 20000 in
theorem gX5_money_X5_checkPerson : GoodIn wsX5_money (va_wsS RX5 29 yX5_checkPerson wsX5_checkPerson) := goodIn_app (goodIn_of _ (by decide +kernel)) ggX5_money_X5_checkPerson
theorem dX5_money_0 : decode cX5_money 0 = .ok (.iload_n 1, 1) := by decide +kernel
theorem dX5_money_1 : decode cX5_money 1 = .ok (.invokestatic 29, 3) := by decide +kernel
theorem dX5_money_4 : decode cX5_money 4 = .ok (.aload_n 0, 1) := by decide +kernel
theorem dX5_money_5 : decode cX5_money 5 = .ok (.getfield 25, 3) := by decide +kernel
theorem dX5_money_8 : decode cX5_money 8 = .ok (.iload_n 1, 1) := by decide +kernel
theorem dX5_money_9 : decode cX5_money 9 = .ok (.iaload, 1) := by decide +kernel
theorem dX5_money_10 : decode cX5_money 10 = .ok (.ireturn, 1) := by decide +kernel
set_option maxRecDepth 20000 in
theorem ggX5_lot_X5_checkPerson : GoodIn wsX5_lot wsX5_checkPerson := goodIn_ca (goodIn_r _ [11, 12, 13] (by decide +kernel) (by decide +kernel)) (goodIn_sub (fun _ h => List.mem_cons_of_mem _ (List.mem_append_left _ (List.mem_append_right _ h))) (by decide +kernel))
set_option maxRecDepth 20000 in
theorem gX5_lot_X5_checkPerson : GoodIn wsX5_lot (va_wsS RX5 29 yX5_checkPerson wsX5_checkPerson) := goodIn_app (goodIn_of _ (by decide +kernel)) ggX5_lot_X5_checkPerson
set_option maxRecDepth 20000 in
theorem ggX5_lot_X5_checkGauge : GoodIn wsX5_lot wsX5_checkGauge := goodIn_ca (goodIn_r _ [16, 17, 18, 10, 19, 20, 21] (by decide +kernel) (by decide +kernel)) (goodIn_sub (fun _ h => List.mem_cons_of_mem _ (List.mem_append_right _ h)) (by decide +kernel))
set_option maxRecDepth 20000 in
theorem gX5_lot_X5_checkGauge : GoodIn wsX5_lot (va_wsS RX5 87 yX5_checkGauge wsX5_checkGauge) := goodIn_app (goodIn_of _ (by decide +kernel)) ggX5_lot_X5_checkGauge
set_option maxRecDepth 20000 in
theorem ggX5_lot_X5_checkRange : GoodIn wsX5_lot wsX5_checkRange := goodIn_ca (goodIn_r _ [19, 20, 21] (by decide +kernel) (by decide +kernel)) (goodIn_sub (fun _ h => List.mem_cons_of_mem _ (List.mem_append_right _ h)) (by decide +kernel))
set_option maxRecDepth 20000 in
theorem gX5_lot_X5_checkRange : GoodIn wsX5_lot (va_wsS RX5 33 yX5_checkRange wsX5_checkRange) := goodIn_app (goodIn_of _ (by decide +kernel)) ggX5_lot_X5_checkRange
set_option maxRecDepth 20000 in
theorem ggX5_lot_Jx4a65c_size_8abf5 : GoodIn wsX5_lot wsJx4a65c_size_8abf5 := goodIn_r _ [26, 27, 101, 102, 103] (by decide +kernel) (by decide +kernel)
set_option maxRecDepth 20000 in
theorem gX5_lot_Jx4a65c_size_8abf5 : GoodIn wsX5_lot (wsV RX5 173 RJx4a65c yJx4a65c_size_8abf5 wsJx4a65c_size_8abf5) := goodIn_app (goodIn_of _ (by decide +kernel)) ggX5_lot_Jx4a65c_size_8abf5
set_option maxRecDepth 20000 in
theorem ggX5_lot_X1_init : GoodIn wsX5_lot wsX1_init := goodIn_r _ [30, 31, 32, 33, 34, 35, 36, 37, 97, 98, 99, 100] (by decide +kernel) (by decide +kernel)
set_option maxRecDepth 20000 in
theorem gX5_lot_X1_init : GoodIn wsX5_lot (wsX1_init) := ggX5_lot_X1_init
set_option maxRecDepth 20000 in
theorem ggX5_lot_Jx4a65c_add_9ea2d : GoodIn wsX5_lot wsJx4a65c_add_9ea2d := goodIn_r _ [41, 42, 43, 44, 27, 45, 46, 47, 25, 48, 49, 50, 51, 52, 53, 54, 55, 56, 57, 58, 59, 60, 61, 62, 63, 64, 65, 66, 67, 68, 69, 70, 71, 72, 73, 74, 75, 76, 77, 78, 79, 80, 81, 82, 83, 84, 85, 86, 87, 88, 89, 90, 91, 101, 102, 103] (by decide +kernel) (by decide +kernel)
set_option maxRecDepth 20000 in
theorem gX5_lot_Jx4a65c_add_9ea2d : GoodIn wsX5_lot (wsV RX5 136 RJx4a65c yJx4a65c_add_9ea2d wsJx4a65c_add_9ea2d) := goodIn_app (goodIn_of _ (by decide +kernel)) ggX5_lot_Jx4a65c_add_9ea2d
theorem dX5_lot_0 : decode cX5_lot 0 = .ok (.iload_n 1, 1) := by decide +kernel
theorem dX5_lot_1 : decode cX5_lot 1 = .ok (.invokestatic 29, 3) := by decide +kernel
theorem dX5_lot_4 : decode cX5_lot 4 = .ok (.iload_n 2, 1) := by decide +kernel
theorem dX5_lot_5 : decode cX5_lot 5 = .ok (.invokestatic 87, 3) := by decide +kernel
theorem dX5_lot_8 : decode cX5_lot 8 = .ok (.iload_n 3, 1) := by decide +kernel
theorem dX5_lot_9 : decode cX5_lot 9 = .ok (.iconst 1, 1) := by decide +kernel
theorem dX5_lot_10 : decode cX5_lot 10 = .ok (.ldc 172, 2) := by decide +kernel
theorem dX5_lot_12 : decode cX5_lot 12 = .ok (.invokestatic 33, 3) := by decide +kernel
theorem dX5_lot_15 : decode cX5_lot 15 = .ok (.aload_n 0, 1) := by decide +kernel
theorem dX5_lot_16 : decode cX5_lot 16 = .ok (.getfield 19, 3) := by decide +kernel
theorem dX5_lot_19 : decode cX5_lot 19 = .ok (.invokevirtual 173, 3) := by decide +kernel
theorem dX5_lot_22 : decode cX5_lot 22 = .ok (.istore 4, 2) := by decide +kernel
theorem dX5_lot_24 : decode cX5_lot 24 = .ok (.iload 4, 2) := by decide +kernel
theorem dX5_lot_26 : decode cX5_lot 26 = .ok (.bipush 20, 2) := by decide +kernel
theorem dX5_lot_28 : decode cX5_lot 28 = .ok (.if_icmp .lt 13, 3) := by decide +kernel
theorem dX5_lot_31 : decode cX5_lot 31 = .ok (.new 69, 3) := by decide +kernel
theorem dX5_lot_34 : decode cX5_lot 34 = .ok (.dup, 1) := by decide +kernel
theorem dX5_lot_35 : decode cX5_lot 35 = .ok (.ldc 176, 2) := by decide +kernel
theorem dX5_lot_37 : decode cX5_lot 37 = .ok (.invokespecial 73, 3) := by decide +kernel
theorem dX5_lot_40 : decode cX5_lot 40 = .ok (.athrow, 1) := by decide +kernel
theorem dX5_lot_41 : decode cX5_lot 41 = .ok (.aload_n 0, 1) := by decide +kernel
theorem dX5_lot_42 : decode cX5_lot 42 = .ok (.getfield 19, 3) := by decide +kernel
theorem dX5_lot_45 : decode cX5_lot 45 = .ok (.new 178, 3) := by decide +kernel
theorem dX5_lot_48 : decode cX5_lot 48 = .ok (.dup, 1) := by decide +kernel
theorem dX5_lot_49 : decode cX5_lot 49 = .ok (.iload 4, 2) := by decide +kernel
theorem dX5_lot_51 : decode cX5_lot 51 = .ok (.iload_n 1, 1) := by decide +kernel
theorem dX5_lot_52 : decode cX5_lot 52 = .ok (.iload_n 2, 1) := by decide +kernel
theorem dX5_lot_53 : decode cX5_lot 53 = .ok (.iload_n 3, 1) := by decide +kernel
theorem dX5_lot_54 : decode cX5_lot 54 = .ok (.invokespecial 180, 3) := by decide +kernel
theorem dX5_lot_57 : decode cX5_lot 57 = .ok (.invokevirtual 136, 3) := by decide +kernel
theorem dX5_lot_60 : decode cX5_lot 60 = .ok (.pop, 1) := by decide +kernel
theorem dX5_lot_61 : decode cX5_lot 61 = .ok (.iload 4, 2) := by decide +kernel
theorem dX5_lot_63 : decode cX5_lot 63 = .ok (.ireturn, 1) := by decide +kernel
set_option maxRecDepth 20000 in
theorem ggX5_swap_X5_lotAt : GoodIn wsX5_swap wsX5_lotAt := goodIn_ca (goodIn_r _ [8, 9, 10, 11, 12, 13, 14, 15, 16, 17, 18, 19, 20, 21, 22, 23, 24, 25, 26, 27, 28, 29, 30, 31, 32, 33, 34, 35, 40, 41, 42, 43, 44, 45, 46, 47] (by decide +kernel) (by decide +kernel)) (goodIn_sub (fun _ h => List.mem_cons_of_mem _ (List.mem_append_right _ h)) (by decide +kernel))
set_option maxRecDepth 20000 in
theorem gX5_swap_X5_lotAt : GoodIn wsX5_swap (wsV RX5 182 RX5 yX5_lotAt wsX5_lotAt) := goodIn_app (goodIn_of _ (by decide +kernel)) ggX5_swap_X5_lotAt
theorem dX5_swap_0 : decode cX5_swap 0 = .ok (.aload_n 0, 1) := by decide +kernel
theorem dX5_swap_1 : decode cX5_swap 1 = .ok (.iload_n 1, 1) := by decide +kernel
theorem dX5_swap_2 : decode cX5_swap 2 = .ok (.invokevirtual 182, 3) := by decide +kernel
theorem dX5_swap_5 : decode cX5_swap 5 = .ok (.astore_n 3, 1) := by decide +kernel
theorem dX5_swap_6 : decode cX5_swap 6 = .ok (.aload_n 0, 1) := by decide +kernel
theorem dX5_swap_7 : decode cX5_swap 7 = .ok (.iload_n 2, 1) := by decide +kernel
theorem dX5_swap_8 : decode cX5_swap 8 = .ok (.invokevirtual 182, 3) := by decide +kernel
theorem dX5_swap_11 : decode cX5_swap 11 = .ok (.astore 4, 2) := by decide +kernel
theorem dX5_swap_13 : decode cX5_swap 13 = .ok (.aload_n 3, 1) := by decide +kernel
theorem dX5_swap_14 : decode cX5_swap 14 = .ok (.getfield 186, 3) := by decide +kernel
theorem dX5_swap_17 : decode cX5_swap 17 = .ok (.aload 4, 2) := by decide +kernel
theorem dX5_swap_19 : decode cX5_swap 19 = .ok (.getfield 186, 3) := by decide +kernel
theorem dX5_swap_22 : decode cX5_swap 22 = .ok (.if_icmp .ne 13, 3) := by decide +kernel
theorem dX5_swap_25 : decode cX5_swap 25 = .ok (.new 69, 3) := by decide +kernel
theorem dX5_swap_28 : decode cX5_swap 28 = .ok (.dup, 1) := by decide +kernel
theorem dX5_swap_29 : decode cX5_swap 29 = .ok (.ldc 189, 2) := by decide +kernel
theorem dX5_swap_31 : decode cX5_swap 31 = .ok (.invokespecial 73, 3) := by decide +kernel
theorem dX5_swap_34 : decode cX5_swap 34 = .ok (.athrow, 1) := by decide +kernel
theorem dX5_swap_35 : decode cX5_swap 35 = .ok (.aload_n 3, 1) := by decide +kernel
theorem dX5_swap_36 : decode cX5_swap 36 = .ok (.getfield 186, 3) := by decide +kernel
theorem dX5_swap_39 : decode cX5_swap 39 = .ok (.istore 5, 2) := by decide +kernel
theorem dX5_swap_41 : decode cX5_swap 41 = .ok (.aload_n 3, 1) := by decide +kernel
theorem dX5_swap_42 : decode cX5_swap 42 = .ok (.aload 4, 2) := by decide +kernel
theorem dX5_swap_44 : decode cX5_swap 44 = .ok (.getfield 186, 3) := by decide +kernel
theorem dX5_swap_47 : decode cX5_swap 47 = .ok (.putfield 186, 3) := by decide +kernel
theorem dX5_swap_50 : decode cX5_swap 50 = .ok (.aload 4, 2) := by decide +kernel
theorem dX5_swap_52 : decode cX5_swap 52 = .ok (.iload 5, 2) := by decide +kernel
theorem dX5_swap_54 : decode cX5_swap 54 = .ok (.putfield 186, 3) := by decide +kernel
theorem dX5_swap_57 : decode cX5_swap 57 = .ok (.aload_n 3, 1) := by decide +kernel
theorem dX5_swap_58 : decode cX5_swap 58 = .ok (.getfield 186, 3) := by decide +kernel
theorem dX5_swap_61 : decode cX5_swap 61 = .ok (.ireturn, 1) := by decide +kernel
set_option maxRecDepth 20000 in
theorem ggX5_left_X5_lotAt : GoodIn wsX5_left wsX5_lotAt := goodIn_ca (goodIn_r _ [6, 7, 8, 9, 10, 11, 12, 13, 14, 15, 16, 17, 18, 19, 20, 21, 22, 23, 24, 25, 26, 27, 28, 29, 30, 31, 32, 33, 38, 39, 40, 41, 42, 43, 44, 45] (by decide +kernel) (by decide +kernel)) (goodIn_sub (fun _ h => List.mem_cons_of_mem _ (List.mem_append_right _ h)) (by decide +kernel))
set_option maxRecDepth 20000 in
theorem gX5_left_X5_lotAt : GoodIn wsX5_left (wsV RX5 182 RX5 yX5_lotAt wsX5_lotAt) := goodIn_app (goodIn_of _ (by decide +kernel)) ggX5_left_X5_lotAt
theorem dX5_left_0 : decode cX5_left 0 = .ok (.aload_n 0, 1) := by decide +kernel
theorem dX5_left_1 : decode cX5_left 1 = .ok (.iload_n 1, 1) := by decide +kernel
theorem dX5_left_2 : decode cX5_left 2 = .ok (.invokevirtual 182, 3) := by decide +kernel
theorem dX5_left_5 : decode cX5_left 5 = .ok (.getfield 191, 3) := by decide +kernel
theorem dX5_left_8 : decode cX5_left 8 = .ok (.ireturn, 1) := by decide +kernel
set_option maxRecDepth 20000 in
theorem ggX5_project_X5_checkPerson : GoodIn wsX5_project wsX5_checkPerson := goodIn_ca (goodIn_r _ [11, 12, 13] (by decide +kernel) (by decide +kernel)) (goodIn_sub (fun _ h => List.mem_cons_of_mem _ (List.mem_append_right _ h)) (by decide +kernel))
set_option maxRecDepth 20000 in
theorem gX5_project_X5_checkPerson : GoodIn wsX5_project (va_wsS RX5 29 yX5_checkPerson wsX5_checkPerson) := goodIn_app (goodIn_of _ (by decide +kernel)) ggX5_project_X5_checkPerson
set_option maxRecDepth 20000 in
theorem ggX5_project_X5_patternAt : GoodIn wsX5_project wsX5_patternAt := goodIn_ca (goodIn_r _ [17, 12, 13, 18, 19, 20, 21, 22, 23, 24, 25, 26, 27, 28, 29, 30, 31, 32, 33, 34, 35, 36, 37, 38, 39, 40, 41, 42, 124, 125, 126, 127, 128, 137, 138, 139] (by decide +kernel) (by decide +kernel)) (goodIn_sub (fun _ h => List.mem_cons_of_mem _ (List.mem_append_right _ h)) (by decide +kernel))
set_option maxRecDepth 20000 in
theorem gX5_project_X5_patternAt : GoodIn wsX5_project (wsV RX5 50 RX5 yX5_patternAt wsX5_patternAt) := goodIn_app (goodIn_of _ (by decide +kernel)) ggX5_project_X5_patternAt
set_option maxRecDepth 20000 in
theorem ggX5_project_X5_lotAt : GoodIn wsX5_project wsX5_lotAt := goodIn_ca (goodIn_r _ [46, 12, 13, 47, 48, 20, 21, 22, 23, 24, 25, 26, 27, 28, 29, 30, 31, 32, 33, 34, 35, 36, 37, 38, 39, 40, 41, 42, 124, 125, 126, 127, 128, 137, 138, 139] (by decide +kernel) (by decide +kernel)) (goodIn_sub (fun _ h => List.mem_cons_of_mem _ (List.mem_append_right _ h)) (by decide +kernel))
set_option maxRecDepth 20000 in
theorem gX5_project_X5_lotAt : GoodIn wsX5_project (wsV RX5 182 RX5 yX5_lotAt wsX5_lotAt) := goodIn_app (goodIn_of _ (by decide +kernel)) ggX5_project_X5_lotAt
set_option maxRecDepth 20000 in
theorem ggX5_project_Jx4a65c_size_8abf5 : GoodIn wsX5_project wsJx4a65c_size_8abf5 := goodIn_r _ [24, 25, 137, 138, 139] (by decide +kernel) (by decide +kernel)
set_option maxRecDepth 20000 in
theorem gX5_project_Jx4a65c_size_8abf5 : GoodIn wsX5_project (wsV RX5 173 RJx4a65c yJx4a65c_size_8abf5 wsJx4a65c_size_8abf5) := goodIn_app (goodIn_of _ (by decide +kernel)) ggX5_project_Jx4a65c_size_8abf5
set_option maxRecDepth 20000 in
theorem ggX5_project_X2_isPublished : GoodIn wsX5_project wsX2_isPublished := goodIn_r _ [53, 54, 140, 141, 142, 143, 144, 145, 146, 147, 148] (by decide +kernel) (by decide +kernel)
set_option maxRecDepth 20000 in
theorem gX5_project_X2_isPublished : GoodIn wsX5_project (wsV RX5 61 RX2 yX2_isPublished wsX2_isPublished) := goodIn_app (goodIn_of _ (by decide +kernel)) ggX5_project_X2_isPublished
set_option maxRecDepth 20000 in
theorem ggX5_project_X2_mayBeKnittedBy : GoodIn wsX5_project wsX2_mayBeKnittedBy := goodIn_r _ [58, 59, 60, 140, 141, 142, 143, 144, 145, 146, 147, 148] (by decide +kernel) (by decide +kernel)
set_option maxRecDepth 20000 in
theorem gX5_project_X2_mayBeKnittedBy : GoodIn wsX5_project (wsV RX5 158 RX2 yX2_mayBeKnittedBy wsX2_mayBeKnittedBy) := goodIn_app (goodIn_of _ (by decide +kernel)) ggX5_project_X2_mayBeKnittedBy
set_option maxRecDepth 20000 in
theorem ggX5_project_X4_init : GoodIn wsX5_project wsX4_init := goodIn_r _ [63, 64, 65, 66, 67, 68, 69, 70, 133, 134, 135, 136] (by decide +kernel) (by decide +kernel)
set_option maxRecDepth 20000 in
theorem gX5_project_X4_init : GoodIn wsX5_project (wsX4_init) := ggX5_project_X4_init
set_option maxRecDepth 20000 in
theorem ggX5_project_Jx4a65c_add_9ea2d : GoodIn wsX5_project wsJx4a65c_add_9ea2d := goodIn_r _ [74, 75, 76, 42, 25, 77, 78, 79, 23, 80, 81, 82, 83, 84, 85, 86, 87, 88, 89, 90, 91, 92, 93, 94, 95, 96, 97, 98, 99, 100, 101, 102, 103, 104, 105, 106, 107, 108, 109, 110, 111, 112, 113, 114, 115, 116, 117, 118, 119, 120, 121, 122, 123, 137, 138, 139] (by decide +kernel) (by decide +kernel)
set_option maxRecDepth 20000 in
theorem gX5_project_Jx4a65c_add_9ea2d : GoodIn wsX5_project (wsV RX5 136 RJx4a65c yJx4a65c_add_9ea2d wsJx4a65c_add_9ea2d) := goodIn_app (goodIn_of _ (by decide +kernel)) ggX5_project_Jx4a65c_add_9ea2d
theorem dX5_project_0 : decode cX5_project 0 = .ok (.iload_n 1, 1) := by decide +kernel
theorem dX5_project_1 : decode cX5_project 1 = .ok (.invokestatic 29, 3) := by decide +kernel
theorem dX5_project_4 : decode cX5_project 4 = .ok (.aload_n 0, 1) := by decide +kernel
theorem dX5_project_5 : decode cX5_project 5 = .ok (.iload_n 2, 1) := by decide +kernel
theorem dX5_project_6 : decode cX5_project 6 = .ok (.invokevirtual 50, 3) := by decide +kernel
theorem dX5_project_9 : decode cX5_project 9 = .ok (.astore 4, 2) := by decide +kernel
theorem dX5_project_11 : decode cX5_project 11 = .ok (.aload_n 0, 1) := by decide +kernel
theorem dX5_project_12 : decode cX5_project 12 = .ok (.iload_n 3, 1) := by decide +kernel
theorem dX5_project_13 : decode cX5_project 13 = .ok (.invokevirtual 182, 3) := by decide +kernel
theorem dX5_project_16 : decode cX5_project 16 = .ok (.astore 5, 2) := by decide +kernel
theorem dX5_project_18 : decode cX5_project 18 = .ok (.aload_n 0, 1) := by decide +kernel
theorem dX5_project_19 : decode cX5_project 19 = .ok (.getfield 22, 3) := by decide +kernel
theorem dX5_project_22 : decode cX5_project 22 = .ok (.invokevirtual 173, 3) := by decide +kernel
theorem dX5_project_25 : decode cX5_project 25 = .ok (.istore 6, 2) := by decide +kernel
theorem dX5_project_27 : decode cX5_project 27 = .ok (.aload 4, 2) := by decide +kernel
theorem dX5_project_29 : decode cX5_project 29 = .ok (.invokevirtual 61, 3) := by decide +kernel
theorem dX5_project_32 : decode cX5_project 32 = .ok (.ifCond .eq 28, 3) := by decide +kernel
theorem dX5_project_35 : decode cX5_project 35 = .ok (.aload 4, 2) := by decide +kernel
theorem dX5_project_37 : decode cX5_project 37 = .ok (.iload_n 1, 1) := by decide +kernel
theorem dX5_project_38 : decode cX5_project 38 = .ok (.invokevirtual 158, 3) := by decide +kernel
theorem dX5_project_41 : decode cX5_project 41 = .ok (.ifCond .eq 19, 3) := by decide +kernel
theorem dX5_project_44 : decode cX5_project 44 = .ok (.aload 5, 2) := by decide +kernel
theorem dX5_project_46 : decode cX5_project 46 = .ok (.getfield 186, 3) := by decide +kernel
theorem dX5_project_49 : decode cX5_project 49 = .ok (.iload_n 1, 1) := by decide +kernel
theorem dX5_project_50 : decode cX5_project 50 = .ok (.if_icmp .ne 10, 3) := by decide +kernel
theorem dX5_project_53 : decode cX5_project 53 = .ok (.iload 6, 2) := by decide +kernel
theorem dX5_project_55 : decode cX5_project 55 = .ok (.bipush 12, 2) := by decide +kernel
theorem dX5_project_57 : decode cX5_project 57 = .ok (.if_icmp .lt 13, 3) := by decide +kernel
theorem dX5_project_60 : decode cX5_project 60 = .ok (.new 69, 3) := by decide +kernel
theorem dX5_project_63 : decode cX5_project 63 = .ok (.dup, 1) := by decide +kernel
theorem dX5_project_64 : decode cX5_project 64 = .ok (.ldc 194, 2) := by decide +kernel
theorem dX5_project_66 : decode cX5_project 66 = .ok (.invokespecial 73, 3) := by decide +kernel
theorem dX5_project_69 : decode cX5_project 69 = .ok (.athrow, 1) := by decide +kernel
theorem dX5_project_70 : decode cX5_project 70 = .ok (.aload_n 0, 1) := by decide +kernel
theorem dX5_project_71 : decode cX5_project 71 = .ok (.getfield 22, 3) := by decide +kernel
theorem dX5_project_74 : decode cX5_project 74 = .ok (.new 196, 3) := by decide +kernel
theorem dX5_project_77 : decode cX5_project 77 = .ok (.dup, 1) := by decide +kernel
theorem dX5_project_78 : decode cX5_project 78 = .ok (.iload_n 1, 1) := by decide +kernel
theorem dX5_project_79 : decode cX5_project 79 = .ok (.aload 4, 2) := by decide +kernel
theorem dX5_project_81 : decode cX5_project 81 = .ok (.aload 5, 2) := by decide +kernel
theorem dX5_project_83 : decode cX5_project 83 = .ok (.invokespecial 198, 3) := by decide +kernel
theorem dX5_project_86 : decode cX5_project 86 = .ok (.invokevirtual 136, 3) := by decide +kernel
theorem dX5_project_89 : decode cX5_project 89 = .ok (.pop, 1) := by decide +kernel
theorem dX5_project_90 : decode cX5_project 90 = .ok (.iload 6, 2) := by decide +kernel
theorem dX5_project_92 : decode cX5_project 92 = .ok (.ireturn, 1) := by decide +kernel
set_option maxRecDepth 20000 in
theorem ggX5_take_X5_projectAt : GoodIn wsX5_take wsX5_projectAt := goodIn_ca (goodIn_r _ [11, 12, 13, 14, 15, 16, 17, 18, 19, 20, 21, 22, 23, 24, 25, 26, 27, 28, 29, 30, 31, 32, 33, 34, 35, 36, 37, 38, 53, 54, 55, 56, 57, 58, 59, 60] (by decide +kernel) (by decide +kernel)) (goodIn_sub (fun _ h => List.mem_cons_of_mem _ (List.mem_append_right _ h)) (by decide +kernel))
set_option maxRecDepth 20000 in
theorem gX5_take_X5_projectAt : GoodIn wsX5_take (wsV RX5 201 RX5 yX5_projectAt wsX5_projectAt) := goodIn_app (goodIn_of _ (by decide +kernel)) ggX5_take_X5_projectAt
set_option maxRecDepth 20000 in
theorem ggX5_take_X5_lotAt : GoodIn wsX5_take wsX5_lotAt := goodIn_ca (goodIn_r _ [42, 12, 13, 43, 44, 16, 17, 18, 19, 20, 21, 22, 23, 24, 25, 26, 27, 28, 29, 30, 31, 32, 33, 34, 35, 36, 37, 38, 53, 54, 55, 56, 57, 58, 59, 60] (by decide +kernel) (by decide +kernel)) (goodIn_sub (fun _ h => List.mem_cons_of_mem _ (List.mem_append_right _ h)) (by decide +kernel))
set_option maxRecDepth 20000 in
theorem gX5_take_X5_lotAt : GoodIn wsX5_take (wsV RX5 182 RX5 yX5_lotAt wsX5_lotAt) := goodIn_app (goodIn_of _ (by decide +kernel)) ggX5_take_X5_lotAt
theorem dX5_take_0 : decode cX5_take 0 = .ok (.aload_n 0, 1) := by decide +kernel
theorem dX5_take_1 : decode cX5_take 1 = .ok (.iload_n 1, 1) := by decide +kernel
theorem dX5_take_2 : decode cX5_take 2 = .ok (.invokevirtual 201, 3) := by decide +kernel
theorem dX5_take_5 : decode cX5_take 5 = .ok (.astore_n 3, 1) := by decide +kernel
theorem dX5_take_6 : decode cX5_take 6 = .ok (.aload_n 0, 1) := by decide +kernel
theorem dX5_take_7 : decode cX5_take 7 = .ok (.iload_n 2, 1) := by decide +kernel
theorem dX5_take_8 : decode cX5_take 8 = .ok (.invokevirtual 182, 3) := by decide +kernel
theorem dX5_take_11 : decode cX5_take 11 = .ok (.astore 4, 2) := by decide +kernel
theorem dX5_take_13 : decode cX5_take 13 = .ok (.aload 4, 2) := by decide +kernel
theorem dX5_take_15 : decode cX5_take 15 = .ok (.getfield 186, 3) := by decide +kernel
theorem dX5_take_18 : decode cX5_take 18 = .ok (.aload_n 3, 1) := by decide +kernel
theorem dX5_take_19 : decode cX5_take 19 = .ok (.getfield 205, 3) := by decide +kernel
theorem dX5_take_22 : decode cX5_take 22 = .ok (.if_icmp .eq 13, 3) := by decide +kernel
theorem dX5_take_25 : decode cX5_take 25 = .ok (.new 69, 3) := by decide +kernel
theorem dX5_take_28 : decode cX5_take 28 = .ok (.dup, 1) := by decide +kernel
theorem dX5_take_29 : decode cX5_take 29 = .ok (.ldc 206, 2) := by decide +kernel
theorem dX5_take_31 : decode cX5_take 31 = .ok (.invokespecial 73, 3) := by decide +kernel
theorem dX5_take_34 : decode cX5_take 34 = .ok (.athrow, 1) := by decide +kernel
theorem dX5_take_35 : decode cX5_take 35 = .ok (.aload_n 3, 1) := by decide +kernel
theorem dX5_take_36 : decode cX5_take 36 = .ok (.getfield 208, 3) := by decide +kernel
theorem dX5_take_39 : decode cX5_take 39 = .ok (.getfield 212, 3) := by decide +kernel
theorem dX5_take_42 : decode cX5_take 42 = .ok (.istore 5, 2) := by decide +kernel
theorem dX5_take_44 : decode cX5_take 44 = .ok (.aload_n 3, 1) := by decide +kernel
theorem dX5_take_45 : decode cX5_take 45 = .ok (.aload 4, 2) := by decide +kernel
theorem dX5_take_47 : decode cX5_take 47 = .ok (.putfield 208, 3) := by decide +kernel
theorem dX5_take_50 : decode cX5_take 50 = .ok (.iload 5, 2) := by decide +kernel
theorem dX5_take_52 : decode cX5_take 52 = .ok (.ireturn, 1) := by decide +kernel
set_option maxRecDepth 20000 in
theorem ggX5_knit_X5_projectAt : GoodIn wsX5_knit wsX5_projectAt := goodIn_ca (goodIn_r _ [5, 6, 7, 8, 9, 10, 11, 12, 13, 14, 15, 16, 17, 18, 19, 20, 21, 22, 23, 24, 25, 26, 27, 28, 29, 30, 31, 32, 66, 67, 68, 69, 70, 71, 72, 73] (by decide +kernel) (by decide +kernel)) (goodIn_sub (fun _ h => List.mem_cons_of_mem _ (List.mem_append_left _ (List.mem_append_right _ h))) (by decide +kernel))
set_option maxRecDepth 20000 in
theorem gX5_knit_X5_projectAt : GoodIn wsX5_knit (wsV RX5 201 RX5 yX5_projectAt wsX5_projectAt) := goodIn_app (goodIn_of _ (by decide +kernel)) ggX5_knit_X5_projectAt
set_option maxRecDepth 20000 in
theorem ggX5_knit_X5_checkRange : GoodIn wsX5_knit wsX5_checkRange := goodIn_ca (goodIn_r _ [35, 36, 37] (by decide +kernel) (by decide +kernel)) (goodIn_sub (fun _ h => List.mem_cons_of_mem _ (List.mem_append_right _ h)) (by decide +kernel))
set_option maxRecDepth 20000 in
theorem gX5_knit_X5_checkRange : GoodIn wsX5_knit (va_wsS RX5 33 yX5_checkRange wsX5_checkRange) := goodIn_app (goodIn_of _ (by decide +kernel)) ggX5_knit_X5_checkRange
set_option maxRecDepth 20000 in
theorem ggX5_knit_X4_knitUpTo : GoodIn wsX5_knit wsX4_knitUpTo := goodIn_r _ [42, 43, 44, 45, 46, 47, 48, 41, 49, 50, 51, 52, 53, 54, 55, 56, 57, 58, 59, 60, 61, 62, 63, 64, 65, 74, 75, 76, 77, 78, 79, 80, 81, 82, 83, 84, 85, 86, 87, 88, 89, 90, 91, 92, 93, 94] (by decide +kernel) (by decide +kernel)
set_option maxRecDepth 20000 in
theorem gX5_knit_X4_knitUpTo : GoodIn wsX5_knit (wsV RX5 213 RX4 yX4_knitUpTo wsX4_knitUpTo) := goodIn_app (goodIn_of _ (by decide +kernel)) ggX5_knit_X4_knitUpTo
theorem dX5_knit_0 : decode cX5_knit 0 = .ok (.aload_n 0, 1) := by decide +kernel
theorem dX5_knit_1 : decode cX5_knit 1 = .ok (.iload_n 1, 1) := by decide +kernel
theorem dX5_knit_2 : decode cX5_knit 2 = .ok (.invokevirtual 201, 3) := by decide +kernel
theorem dX5_knit_5 : decode cX5_knit 5 = .ok (.astore_n 3, 1) := by decide +kernel
theorem dX5_knit_6 : decode cX5_knit 6 = .ok (.iload_n 2, 1) := by decide +kernel
theorem dX5_knit_7 : decode cX5_knit 7 = .ok (.iconst 1, 1) := by decide +kernel
theorem dX5_knit_8 : decode cX5_knit 8 = .ok (.bipush 40, 2) := by decide +kernel
theorem dX5_knit_10 : decode cX5_knit 10 = .ok (.invokestatic 33, 3) := by decide +kernel
theorem dX5_knit_13 : decode cX5_knit 13 = .ok (.aload_n 3, 1) := by decide +kernel
theorem dX5_knit_14 : decode cX5_knit 14 = .ok (.iload_n 2, 1) := by decide +kernel
theorem dX5_knit_15 : decode cX5_knit 15 = .ok (.invokevirtual 213, 3) := by decide +kernel
theorem dX5_knit_18 : decode cX5_knit 18 = .ok (.ireturn, 1) := by decide +kernel
set_option maxRecDepth 20000 in
theorem ggX5_progress_X5_projectAt : GoodIn wsX5_progress wsX5_projectAt := goodIn_ca (goodIn_r _ [6, 7, 8, 9, 10, 11, 12, 13, 14, 15, 16, 17, 18, 19, 20, 21, 22, 23, 24, 25, 26, 27, 28, 29, 30, 31, 32, 33, 38, 39, 40, 41, 42, 43, 44, 45] (by decide +kernel) (by decide +kernel)) (goodIn_sub (fun _ h => List.mem_cons_of_mem _ (List.mem_append_right _ h)) (by decide +kernel))
set_option maxRecDepth 20000 in
theorem gX5_progress_X5_projectAt : GoodIn wsX5_progress (wsV RX5 201 RX5 yX5_projectAt wsX5_projectAt) := goodIn_app (goodIn_of _ (by decide +kernel)) ggX5_progress_X5_projectAt
theorem dX5_progress_0 : decode cX5_progress 0 = .ok (.aload_n 0, 1) := by decide +kernel
theorem dX5_progress_1 : decode cX5_progress 1 = .ok (.iload_n 1, 1) := by decide +kernel
theorem dX5_progress_2 : decode cX5_progress 2 = .ok (.invokevirtual 201, 3) := by decide +kernel
theorem dX5_progress_5 : decode cX5_progress 5 = .ok (.getfield 216, 3) := by decide +kernel
theorem dX5_progress_8 : decode cX5_progress 8 = .ok (.ireturn, 1) := by decide +kernel
set_option maxRecDepth 20000 in
theorem ggX5_patternAt_Jx4a65c_size_8abf5 : GoodIn wsX5_patternAt wsJx4a65c_size_8abf5 := goodIn_r _ [9, 10, 33, 34, 35] (by decide +kernel) (by decide +kernel)
set_option maxRecDepth 20000 in
theorem gX5_patternAt_Jx4a65c_size_8abf5 : GoodIn wsX5_patternAt (wsV RX5 173 RJx4a65c yJx4a65c_size_8abf5 wsJx4a65c_size_8abf5) := goodIn_app (goodIn_of _ (by decide +kernel)) ggX5_patternAt_Jx4a65c_size_8abf5
set_option maxRecDepth 20000 in
theorem ggX5_patternAt_Jx4a65c_get_915e3 : GoodIn wsX5_patternAt wsJx4a65c_get_915e3 := goodIn_r _ [14, 10, 15, 16, 17, 18, 19, 20, 21, 22, 23, 24, 25, 8, 26, 27, 33, 34, 35] (by decide +kernel) (by decide +kernel)
set_option maxRecDepth 20000 in
theorem gX5_patternAt_Jx4a65c_get_915e3 : GoodIn wsX5_patternAt (wsV RX5 224 RJx4a65c yJx4a65c_get_915e3 wsJx4a65c_get_915e3) := goodIn_app (goodIn_of _ (by decide +kernel)) ggX5_patternAt_Jx4a65c_get_915e3
theorem dX5_patternAt_0 : decode cX5_patternAt 0 = .ok (.iload_n 1, 1) := by decide +kernel
theorem dX5_patternAt_1 : decode cX5_patternAt 1 = .ok (.ifCond .lt 14, 3) := by decide +kernel
theorem dX5_patternAt_4 : decode cX5_patternAt 4 = .ok (.iload_n 1, 1) := by decide +kernel
theorem dX5_patternAt_5 : decode cX5_patternAt 5 = .ok (.aload_n 0, 1) := by decide +kernel
theorem dX5_patternAt_6 : decode cX5_patternAt 6 = .ok (.getfield 10, 3) := by decide +kernel
theorem dX5_patternAt_9 : decode cX5_patternAt 9 = .ok (.invokevirtual 173, 3) := by decide +kernel
theorem dX5_patternAt_12 : decode cX5_patternAt 12 = .ok (.if_icmp .lt 13, 3) := by decide +kernel
theorem dX5_patternAt_15 : decode cX5_patternAt 15 = .ok (.new 219, 3) := by decide +kernel
theorem dX5_patternAt_18 : decode cX5_patternAt 18 = .ok (.dup, 1) := by decide +kernel
theorem dX5_patternAt_19 : decode cX5_patternAt 19 = .ok (.ldc 221, 2) := by decide +kernel
theorem dX5_patternAt_21 : decode cX5_patternAt 21 = .ok (.invokespecial 223, 3) := by decide +kernel
theorem dX5_patternAt_24 : decode cX5_patternAt 24 = .ok (.athrow, 1) := by decide +kernel
theorem dX5_patternAt_25 : decode cX5_patternAt 25 = .ok (.aload_n 0, 1) := by decide +kernel
theorem dX5_patternAt_26 : decode cX5_patternAt 26 = .ok (.getfield 10, 3) := by decide +kernel
theorem dX5_patternAt_29 : decode cX5_patternAt 29 = .ok (.iload_n 1, 1) := by decide +kernel
theorem dX5_patternAt_30 : decode cX5_patternAt 30 = .ok (.invokevirtual 224, 3) := by decide +kernel
theorem dX5_patternAt_33 : decode cX5_patternAt 33 = .ok (.checkcast 45, 3) := by decide +kernel
theorem dX5_patternAt_36 : decode cX5_patternAt 36 = .ok (.areturn, 1) := by decide +kernel
set_option maxRecDepth 20000 in
theorem ggX5_lotAt_Jx4a65c_size_8abf5 : GoodIn wsX5_lotAt wsJx4a65c_size_8abf5 := goodIn_r _ [9, 10, 33, 34, 35] (by decide +kernel) (by decide +kernel)
set_option maxRecDepth 20000 in
theorem gX5_lotAt_Jx4a65c_size_8abf5 : GoodIn wsX5_lotAt (wsV RX5 173 RJx4a65c yJx4a65c_size_8abf5 wsJx4a65c_size_8abf5) := goodIn_app (goodIn_of _ (by decide +kernel)) ggX5_lotAt_Jx4a65c_size_8abf5
set_option maxRecDepth 20000 in
theorem ggX5_lotAt_Jx4a65c_get_915e3 : GoodIn wsX5_lotAt wsJx4a65c_get_915e3 := goodIn_r _ [14, 10, 15, 16, 17, 18, 19, 20, 21, 22, 23, 24, 25, 8, 26, 27, 33, 34, 35] (by decide +kernel) (by decide +kernel)
set_option maxRecDepth 20000 in
theorem gX5_lotAt_Jx4a65c_get_915e3 : GoodIn wsX5_lotAt (wsV RX5 224 RJx4a65c yJx4a65c_get_915e3 wsJx4a65c_get_915e3) := goodIn_app (goodIn_of _ (by decide +kernel)) ggX5_lotAt_Jx4a65c_get_915e3
theorem dX5_lotAt_0 : decode cX5_lotAt 0 = .ok (.iload_n 1, 1) := by decide +kernel
theorem dX5_lotAt_1 : decode cX5_lotAt 1 = .ok (.ifCond .lt 14, 3) := by decide +kernel
theorem dX5_lotAt_4 : decode cX5_lotAt 4 = .ok (.iload_n 1, 1) := by decide +kernel
theorem dX5_lotAt_5 : decode cX5_lotAt 5 = .ok (.aload_n 0, 1) := by decide +kernel
theorem dX5_lotAt_6 : decode cX5_lotAt 6 = .ok (.getfield 19, 3) := by decide +kernel
theorem dX5_lotAt_9 : decode cX5_lotAt 9 = .ok (.invokevirtual 173, 3) := by decide +kernel
theorem dX5_lotAt_12 : decode cX5_lotAt 12 = .ok (.if_icmp .lt 13, 3) := by decide +kernel
theorem dX5_lotAt_15 : decode cX5_lotAt 15 = .ok (.new 219, 3) := by decide +kernel
theorem dX5_lotAt_18 : decode cX5_lotAt 18 = .ok (.dup, 1) := by decide +kernel
theorem dX5_lotAt_19 : decode cX5_lotAt 19 = .ok (.ldc 228, 2) := by decide +kernel
theorem dX5_lotAt_21 : decode cX5_lotAt 21 = .ok (.invokespecial 223, 3) := by decide +kernel
theorem dX5_lotAt_24 : decode cX5_lotAt 24 = .ok (.athrow, 1) := by decide +kernel
theorem dX5_lotAt_25 : decode cX5_lotAt 25 = .ok (.aload_n 0, 1) := by decide +kernel
theorem dX5_lotAt_26 : decode cX5_lotAt 26 = .ok (.getfield 19, 3) := by decide +kernel
theorem dX5_lotAt_29 : decode cX5_lotAt 29 = .ok (.iload_n 1, 1) := by decide +kernel
theorem dX5_lotAt_30 : decode cX5_lotAt 30 = .ok (.invokevirtual 224, 3) := by decide +kernel
theorem dX5_lotAt_33 : decode cX5_lotAt 33 = .ok (.checkcast 178, 3) := by decide +kernel
theorem dX5_lotAt_36 : decode cX5_lotAt 36 = .ok (.areturn, 1) := by decide +kernel
set_option maxRecDepth 20000 in
theorem ggX5_projectAt_Jx4a65c_size_8abf5 : GoodIn wsX5_projectAt wsJx4a65c_size_8abf5 := goodIn_r _ [9, 10, 33, 34, 35] (by decide +kernel) (by decide +kernel)
set_option maxRecDepth 20000 in
theorem gX5_projectAt_Jx4a65c_size_8abf5 : GoodIn wsX5_projectAt (wsV RX5 173 RJx4a65c yJx4a65c_size_8abf5 wsJx4a65c_size_8abf5) := goodIn_app (goodIn_of _ (by decide +kernel)) ggX5_projectAt_Jx4a65c_size_8abf5
set_option maxRecDepth 20000 in
theorem ggX5_projectAt_Jx4a65c_get_915e3 : GoodIn wsX5_projectAt wsJx4a65c_get_915e3 := goodIn_r _ [14, 10, 15, 16, 17, 18, 19, 20, 21, 22, 23, 24, 25, 8, 26, 27, 33, 34, 35] (by decide +kernel) (by decide +kernel)
set_option maxRecDepth 20000 in
theorem gX5_projectAt_Jx4a65c_get_915e3 : GoodIn wsX5_projectAt (wsV RX5 224 RJx4a65c yJx4a65c_get_915e3 wsJx4a65c_get_915e3) := goodIn_app (goodIn_of _ (by decide +kernel)) ggX5_projectAt_Jx4a65c_get_915e3
theorem dX5_projectAt_0 : decode cX5_projectAt 0 = .ok (.iload_n 1, 1) := by decide +kernel
theorem dX5_projectAt_1 : decode cX5_projectAt 1 = .ok (.ifCond .lt 14, 3) := by decide +kernel
theorem dX5_projectAt_4 : decode cX5_projectAt 4 = .ok (.iload_n 1, 1) := by decide +kernel
theorem dX5_projectAt_5 : decode cX5_projectAt 5 = .ok (.aload_n 0, 1) := by decide +kernel
theorem dX5_projectAt_6 : decode cX5_projectAt 6 = .ok (.getfield 22, 3) := by decide +kernel
theorem dX5_projectAt_9 : decode cX5_projectAt 9 = .ok (.invokevirtual 173, 3) := by decide +kernel
theorem dX5_projectAt_12 : decode cX5_projectAt 12 = .ok (.if_icmp .lt 13, 3) := by decide +kernel
theorem dX5_projectAt_15 : decode cX5_projectAt 15 = .ok (.new 219, 3) := by decide +kernel
theorem dX5_projectAt_18 : decode cX5_projectAt 18 = .ok (.dup, 1) := by decide +kernel
theorem dX5_projectAt_19 : decode cX5_projectAt 19 = .ok (.ldc 230, 2) := by decide +kernel
theorem dX5_projectAt_21 : decode cX5_projectAt 21 = .ok (.invokespecial 223, 3) := by decide +kernel
theorem dX5_projectAt_24 : decode cX5_projectAt 24 = .ok (.athrow, 1) := by decide +kernel
theorem dX5_projectAt_25 : decode cX5_projectAt 25 = .ok (.aload_n 0, 1) := by decide +kernel
theorem dX5_projectAt_26 : decode cX5_projectAt 26 = .ok (.getfield 22, 3) := by decide +kernel
theorem dX5_projectAt_29 : decode cX5_projectAt 29 = .ok (.iload_n 1, 1) := by decide +kernel
theorem dX5_projectAt_30 : decode cX5_projectAt 30 = .ok (.invokevirtual 224, 3) := by decide +kernel
theorem dX5_projectAt_33 : decode cX5_projectAt 33 = .ok (.checkcast 196, 3) := by decide +kernel
theorem dX5_projectAt_36 : decode cX5_projectAt 36 = .ok (.areturn, 1) := by decide +kernel
set_option maxRecDepth 20000 in
theorem ggX5_checkRoomForPattern_Jx4a65c_size_8abf5 : GoodIn wsX5_checkRoomForPattern wsJx4a65c_size_8abf5 := goodIn_r _ [8, 9, 15, 16, 17] (by decide +kernel) (by decide +kernel)
set_option maxRecDepth 20000 in
theorem gX5_checkRoomForPattern_Jx4a65c_size_8abf5 : GoodIn wsX5_checkRoomForPattern (wsV RX5 173 RJx4a65c yJx4a65c_size_8abf5 wsJx4a65c_size_8abf5) := goodIn_app (goodIn_of _ (by decide +kernel)) ggX5_checkRoomForPattern_Jx4a65c_size_8abf5
theorem dX5_checkRoomForPattern_0 : decode cX5_checkRoomForPattern 0 = .ok (.aload_n 0, 1) := by decide +kernel
theorem dX5_checkRoomForPattern_1 : decode cX5_checkRoomForPattern 1 = .ok (.getfield 10, 3) := by decide +kernel
theorem dX5_checkRoomForPattern_4 : decode cX5_checkRoomForPattern 4 = .ok (.invokevirtual 173, 3) := by decide +kernel
theorem dX5_checkRoomForPattern_7 : decode cX5_checkRoomForPattern 7 = .ok (.bipush 16, 2) := by decide +kernel
theorem dX5_checkRoomForPattern_9 : decode cX5_checkRoomForPattern 9 = .ok (.if_icmp .lt 13, 3) := by decide +kernel
theorem dX5_checkRoomForPattern_12 : decode cX5_checkRoomForPattern 12 = .ok (.new 69, 3) := by decide +kernel
theorem dX5_checkRoomForPattern_15 : decode cX5_checkRoomForPattern 15 = .ok (.dup, 1) := by decide +kernel
theorem dX5_checkRoomForPattern_16 : decode cX5_checkRoomForPattern 16 = .ok (.ldc 232, 2) := by decide +kernel
theorem dX5_checkRoomForPattern_18 : decode cX5_checkRoomForPattern 18 = .ok (.invokespecial 73, 3) := by decide +kernel
theorem dX5_checkRoomForPattern_21 : decode cX5_checkRoomForPattern 21 = .ok (.athrow, 1) := by decide +kernel
theorem dX5_checkRoomForPattern_22 : decode cX5_checkRoomForPattern 22 = .ok (.return_, 1) := by decide +kernel
set_option maxRecDepth 20000 in
theorem ggX5_addPattern_Jx4a65c_size_8abf5 : GoodIn wsX5_addPattern wsJx4a65c_size_8abf5 := goodIn_r _ [9, 10, 120, 121, 122] (by decide +kernel) (by decide +kernel)
set_option maxRecDepth 20000 in
theorem gX5_addPattern_Jx4a65c_size_8abf5 : GoodIn wsX5_addPattern (wsV RX5 173 RJx4a65c yJx4a65c_size_8abf5 wsJx4a65c_size_8abf5) := goodIn_app (goodIn_of _ (by decide +kernel)) ggX5_addPattern_Jx4a65c_size_8abf5
set_option maxRecDepth 20000 in
theorem ggX5_addPattern_X2_init : GoodIn wsX5_addPattern wsX2_init := goodIn_r _ [13, 14, 15, 16, 17, 18, 19, 20, 21, 22, 23, 24, 25, 26, 27, 28, 29, 30, 31, 32, 33, 34, 35, 36, 37, 38, 39, 40, 41, 42, 43, 44, 45, 46, 47, 48, 49, 50, 51, 106, 107, 108, 109, 110, 111, 112, 113, 114, 123, 124, 125, 126, 127, 128, 129, 130, 131, 132] (by decide +kernel) (by decide +kernel)
set_option maxRecDepth 20000 in
theorem gX5_addPattern_X2_init : GoodIn wsX5_addPattern (wsX2_init) := ggX5_addPattern_X2_init
set_option maxRecDepth 20000 in
theorem ggX5_addPattern_Jx4a65c_add_9ea2d : GoodIn wsX5_addPattern wsJx4a65c_add_9ea2d := goodIn_r _ [55, 56, 57, 58, 10, 59, 60, 61, 8, 62, 63, 64, 65, 66, 67, 68, 69, 70, 71, 72, 73, 74, 75, 76, 77, 78, 79, 80, 81, 82, 83, 84, 85, 86, 87, 88, 89, 90, 91, 92, 93, 94, 95, 96, 97, 98, 99, 100, 101, 102, 103, 104, 105, 120, 121, 122] (by decide +kernel) (by decide +kernel)
set_option maxRecDepth 20000 in
theorem gX5_addPattern_Jx4a65c_add_9ea2d : GoodIn wsX5_addPattern (wsV RX5 136 RJx4a65c yJx4a65c_add_9ea2d wsJx4a65c_add_9ea2d) := goodIn_app (goodIn_of _ (by decide +kernel)) ggX5_addPattern_Jx4a65c_add_9ea2d
theorem dX5_addPattern_0 : decode cX5_addPattern 0 = .ok (.new 45, 3) := by decide +kernel
theorem dX5_addPattern_3 : decode cX5_addPattern 3 = .ok (.dup, 1) := by decide +kernel
theorem dX5_addPattern_4 : decode cX5_addPattern 4 = .ok (.aload_n 0, 1) := by decide +kernel
theorem dX5_addPattern_5 : decode cX5_addPattern 5 = .ok (.getfield 10, 3) := by decide +kernel
theorem dX5_addPattern_8 : decode cX5_addPattern 8 = .ok (.invokevirtual 173, 3) := by decide +kernel
theorem dX5_addPattern_11 : decode cX5_addPattern 11 = .ok (.iload_n 1, 1) := by decide +kernel
theorem dX5_addPattern_12 : decode cX5_addPattern 12 = .ok (.iload_n 2, 1) := by decide +kernel
theorem dX5_addPattern_13 : decode cX5_addPattern 13 = .ok (.iload_n 3, 1) := by decide +kernel
theorem dX5_addPattern_14 : decode cX5_addPattern 14 = .ok (.invokespecial 234, 3) := by decide +kernel
theorem dX5_addPattern_17 : decode cX5_addPattern 17 = .ok (.astore 4, 2) := by decide +kernel
theorem dX5_addPattern_19 : decode cX5_addPattern 19 = .ok (.aload_n 0, 1) := by decide +kernel
theorem dX5_addPattern_20 : decode cX5_addPattern 20 = .ok (.getfield 10, 3) := by decide +kernel
theorem dX5_addPattern_23 : decode cX5_addPattern 23 = .ok (.aload 4, 2) := by decide +kernel
theorem dX5_addPattern_25 : decode cX5_addPattern 25 = .ok (.invokevirtual 136, 3) := by decide +kernel
theorem dX5_addPattern_28 : decode cX5_addPattern 28 = .ok (.pop, 1) := by decide +kernel
theorem dX5_addPattern_29 : decode cX5_addPattern 29 = .ok (.aload 4, 2) := by decide +kernel
theorem dX5_addPattern_31 : decode cX5_addPattern 31 = .ok (.areturn, 1) := by decide +kernel
set_option maxRecDepth 20000 in
theorem ggX5_firstOfSameChart_Jx4a65c_size_8abf5 : GoodIn wsX5_firstOfSameChart wsJx4a65c_size_8abf5 := goodIn_r _ [8, 9, 48, 49, 50] (by decide +kernel) (by decide +kernel)
set_option maxRecDepth 20000 in
theorem gX5_firstOfSameChart_Jx4a65c_size_8abf5 : GoodIn wsX5_firstOfSameChart (wsV RX5 173 RJx4a65c yJx4a65c_size_8abf5 wsJx4a65c_size_8abf5) := goodIn_app (goodIn_of _ (by decide +kernel)) ggX5_firstOfSameChart_Jx4a65c_size_8abf5
set_option maxRecDepth 20000 in
theorem ggX5_firstOfSameChart_Jx4a65c_get_915e3 : GoodIn wsX5_firstOfSameChart wsJx4a65c_get_915e3 := goodIn_r _ [13, 9, 14, 15, 16, 17, 18, 19, 20, 21, 22, 23, 24, 7, 25, 26, 48, 49, 50] (by decide +kernel) (by decide +kernel)
set_option maxRecDepth 20000 in
theorem gX5_firstOfSameChart_Jx4a65c_get_915e3 : GoodIn wsX5_firstOfSameChart (wsV RX5 224 RJx4a65c yJx4a65c_get_915e3 wsJx4a65c_get_915e3) := goodIn_app (goodIn_of _ (by decide +kernel)) ggX5_firstOfSameChart_Jx4a65c_get_915e3
set_option maxRecDepth 20000 in
theorem ggX5_firstOfSameChart_X0_isSameAs : GoodIn wsX5_firstOfSameChart wsX0_isSameAs := goodIn_r _ [31, 32, 33, 51, 52, 53, 54] (by decide +kernel) (by decide +kernel)
set_option maxRecDepth 20000 in
theorem gX5_firstOfSameChart_X0_isSameAs : GoodIn wsX5_firstOfSameChart (wsV RX5 235 RX0 yX0_isSameAs wsX0_isSameAs) := goodIn_app (goodIn_of _ (by decide +kernel)) ggX5_firstOfSameChart_X0_isSameAs
theorem dX5_firstOfSameChart_0 : decode cX5_firstOfSameChart 0 = .ok (.iconst 0, 1) := by decide +kernel
theorem dX5_firstOfSameChart_1 : decode cX5_firstOfSameChart 1 = .ok (.istore_n 2, 1) := by decide +kernel
theorem dX5_firstOfSameChart_2 : decode cX5_firstOfSameChart 2 = .ok (.iload_n 2, 1) := by decide +kernel
theorem dX5_firstOfSameChart_3 : decode cX5_firstOfSameChart 3 = .ok (.aload_n 0, 1) := by decide +kernel
theorem dX5_firstOfSameChart_4 : decode cX5_firstOfSameChart 4 = .ok (.getfield 16, 3) := by decide +kernel
theorem dX5_firstOfSameChart_7 : decode cX5_firstOfSameChart 7 = .ok (.invokevirtual 173, 3) := by decide +kernel
theorem dX5_firstOfSameChart_10 : decode cX5_firstOfSameChart 10 = .ok (.if_icmp .ge 37, 3) := by decide +kernel
theorem dX5_firstOfSameChart_13 : decode cX5_firstOfSameChart 13 = .ok (.aload_n 0, 1) := by decide +kernel
theorem dX5_firstOfSameChart_14 : decode cX5_firstOfSameChart 14 = .ok (.getfield 16, 3) := by decide +kernel
theorem dX5_firstOfSameChart_17 : decode cX5_firstOfSameChart 17 = .ok (.iload_n 2, 1) := by decide +kernel
theorem dX5_firstOfSameChart_18 : decode cX5_firstOfSameChart 18 = .ok (.invokevirtual 224, 3) := by decide +kernel
theorem dX5_firstOfSameChart_21 : decode cX5_firstOfSameChart 21 = .ok (.checkcast 45, 3) := by decide +kernel
theorem dX5_firstOfSameChart_24 : decode cX5_firstOfSameChart 24 = .ok (.astore_n 3, 1) := by decide +kernel
theorem dX5_firstOfSameChart_25 : decode cX5_firstOfSameChart 25 = .ok (.aload_n 3, 1) := by decide +kernel
theorem dX5_firstOfSameChart_26 : decode cX5_firstOfSameChart 26 = .ok (.getfield 78, 3) := by decide +kernel
theorem dX5_firstOfSameChart_29 : decode cX5_firstOfSameChart 29 = .ok (.aload_n 1, 1) := by decide +kernel
theorem dX5_firstOfSameChart_30 : decode cX5_firstOfSameChart 30 = .ok (.getfield 78, 3) := by decide +kernel
theorem dX5_firstOfSameChart_33 : decode cX5_firstOfSameChart 33 = .ok (.invokevirtual 235, 3) := by decide +kernel
theorem dX5_firstOfSameChart_36 : decode cX5_firstOfSameChart 36 = .ok (.ifCond .eq 5, 3) := by decide +kernel
theorem dX5_firstOfSameChart_39 : decode cX5_firstOfSameChart 39 = .ok (.aload_n 3, 1) := by decide +kernel
theorem dX5_firstOfSameChart_40 : decode cX5_firstOfSameChart 40 = .ok (.areturn, 1) := by decide +kernel
theorem dX5_firstOfSameChart_41 : decode cX5_firstOfSameChart 41 = .ok (.iinc 2 1, 3) := by decide +kernel
theorem dX5_firstOfSameChart_44 : decode cX5_firstOfSameChart 44 = .ok (.goto (-42), 3) := by decide +kernel
theorem dX5_firstOfSameChart_47 : decode cX5_firstOfSameChart 47 = .ok (.aload_n 1, 1) := by decide +kernel
theorem dX5_firstOfSameChart_48 : decode cX5_firstOfSameChart 48 = .ok (.areturn, 1) := by decide +kernel
theorem dX5_checkPerson_0 : decode cX5_checkPerson 0 = .ok (.iload_n 0, 1) := by decide +kernel
theorem dX5_checkPerson_1 : decode cX5_checkPerson 1 = .ok (.ifCond .lt 8, 3) := by decide +kernel
theorem dX5_checkPerson_4 : decode cX5_checkPerson 4 = .ok (.iload_n 0, 1) := by decide +kernel
theorem dX5_checkPerson_5 : decode cX5_checkPerson 5 = .ok (.iconst 5, 1) := by decide +kernel
theorem dX5_checkPerson_6 : decode cX5_checkPerson 6 = .ok (.if_icmp .lt 13, 3) := by decide +kernel
theorem dX5_checkPerson_9 : decode cX5_checkPerson 9 = .ok (.new 219, 3) := by decide +kernel
theorem dX5_checkPerson_12 : decode cX5_checkPerson 12 = .ok (.dup, 1) := by decide +kernel
theorem dX5_checkPerson_13 : decode cX5_checkPerson 13 = .ok (.ldc 239, 2) := by decide +kernel
theorem dX5_checkPerson_15 : decode cX5_checkPerson 15 = .ok (.invokespecial 223, 3) := by decide +kernel
theorem dX5_checkPerson_18 : decode cX5_checkPerson 18 = .ok (.athrow, 1) := by decide +kernel
theorem dX5_checkPerson_19 : decode cX5_checkPerson 19 = .ok (.return_, 1) := by decide +kernel
theorem dX5_checkPlace_0 : decode cX5_checkPlace 0 = .ok (.iload_n 1, 1) := by decide +kernel
theorem dX5_checkPlace_1 : decode cX5_checkPlace 1 = .ok (.ifCond .lt 18, 3) := by decide +kernel
theorem dX5_checkPlace_4 : decode cX5_checkPlace 4 = .ok (.iload_n 1, 1) := by decide +kernel
theorem dX5_checkPlace_5 : decode cX5_checkPlace 5 = .ok (.aload_n 0, 1) := by decide +kernel
theorem dX5_checkPlace_6 : decode cX5_checkPlace 6 = .ok (.getfield 78, 3) := by decide +kernel
theorem dX5_checkPlace_9 : decode cX5_checkPlace 9 = .ok (.getfield 82, 3) := by decide +kernel
theorem dX5_checkPlace_12 : decode cX5_checkPlace 12 = .ok (.if_icmp .ge 7, 3) := by decide +kernel
theorem dX5_checkPlace_15 : decode cX5_checkPlace 15 = .ok (.iload_n 2, 1) := by decide +kernel
theorem dX5_checkPlace_16 : decode cX5_checkPlace 16 = .ok (.ifCond .ge 13, 3) := by decide +kernel
theorem dX5_checkPlace_19 : decode cX5_checkPlace 19 = .ok (.new 219, 3) := by decide +kernel
theorem dX5_checkPlace_22 : decode cX5_checkPlace 22 = .ok (.dup, 1) := by decide +kernel
theorem dX5_checkPlace_23 : decode cX5_checkPlace 23 = .ok (.ldc 241, 2) := by decide +kernel
theorem dX5_checkPlace_25 : decode cX5_checkPlace 25 = .ok (.invokespecial 223, 3) := by decide +kernel
theorem dX5_checkPlace_28 : decode cX5_checkPlace 28 = .ok (.athrow, 1) := by decide +kernel
theorem dX5_checkPlace_29 : decode cX5_checkPlace 29 = .ok (.return_, 1) := by decide +kernel
set_option maxRecDepth 20000 in
theorem ggX5_checkGauge_X5_checkRange : GoodIn wsX5_checkGauge wsX5_checkRange := goodIn_ca (goodIn_r _ [4, 5, 6] (by decide +kernel) (by decide +kernel)) (goodIn_sub (fun _ h => List.mem_cons_of_mem _ (List.mem_append_right _ h)) (by decide +kernel))
set_option maxRecDepth 20000 in
theorem gX5_checkGauge_X5_checkRange : GoodIn wsX5_checkGauge (va_wsS RX5 33 yX5_checkRange wsX5_checkRange) := goodIn_app (goodIn_of _ (by decide +kernel)) ggX5_checkGauge_X5_checkRange
theorem dX5_checkGauge_0 : decode cX5_checkGauge 0 = .ok (.iload_n 0, 1) := by decide +kernel
theorem dX5_checkGauge_1 : decode cX5_checkGauge 1 = .ok (.iconst 5, 1) := by decide +kernel
theorem dX5_checkGauge_2 : decode cX5_checkGauge 2 = .ok (.bipush 20, 2) := by decide +kernel
theorem dX5_checkGauge_4 : decode cX5_checkGauge 4 = .ok (.invokestatic 33, 3) := by decide +kernel
theorem dX5_checkGauge_7 : decode cX5_checkGauge 7 = .ok (.return_, 1) := by decide +kernel
theorem dX5_checkRange_0 : decode cX5_checkRange 0 = .ok (.iload_n 0, 1) := by decide +kernel
theorem dX5_checkRange_1 : decode cX5_checkRange 1 = .ok (.iload_n 1, 1) := by decide +kernel
theorem dX5_checkRange_2 : decode cX5_checkRange 2 = .ok (.if_icmp .lt 8, 3) := by decide +kernel
theorem dX5_checkRange_5 : decode cX5_checkRange 5 = .ok (.iload_n 0, 1) := by decide +kernel
theorem dX5_checkRange_6 : decode cX5_checkRange 6 = .ok (.iload_n 2, 1) := by decide +kernel
theorem dX5_checkRange_7 : decode cX5_checkRange 7 = .ok (.if_icmp .le 13, 3) := by decide +kernel
theorem dX5_checkRange_10 : decode cX5_checkRange 10 = .ok (.new 54, 3) := by decide +kernel
theorem dX5_checkRange_13 : decode cX5_checkRange 13 = .ok (.dup, 1) := by decide +kernel
theorem dX5_checkRange_14 : decode cX5_checkRange 14 = .ok (.ldc 243, 2) := by decide +kernel
theorem dX5_checkRange_16 : decode cX5_checkRange 16 = .ok (.invokespecial 58, 3) := by decide +kernel
theorem dX5_checkRange_19 : decode cX5_checkRange 19 = .ok (.athrow, 1) := by decide +kernel
theorem dX5_checkRange_20 : decode cX5_checkRange 20 = .ok (.return_, 1) := by decide +kernel
theorem dX5_within_0 : decode cX5_within 0 = .ok (.iload_n 0, 1) := by decide +kernel
theorem dX5_within_1 : decode cX5_within 1 = .ok (.iload_n 1, 1) := by decide +kernel
theorem dX5_within_2 : decode cX5_within 2 = .ok (.invokestatic 245, 3) := by decide +kernel
theorem dX5_within_5 : decode cX5_within 5 = .ok (.iload_n 2, 1) := by decide +kernel
theorem dX5_within_6 : decode cX5_within 6 = .ok (.invokestatic 250, 3) := by decide +kernel
theorem dX5_within_9 : decode cX5_within 9 = .ok (.ireturn, 1) := by decide +kernel
theorem dX5_forGauge_0 : decode cX5_forGauge 0 = .ok (.iload_n 0, 1) := by decide +kernel
theorem dX5_forGauge_1 : decode cX5_forGauge 1 = .ok (.iload_n 1, 1) := by decide +kernel
theorem dX5_forGauge_2 : decode cX5_forGauge 2 = .ok (.imul, 1) := by decide +kernel
theorem dX5_forGauge_3 : decode cX5_forGauge 3 = .ok (.bipush 10, 2) := by decide +kernel
theorem dX5_forGauge_5 : decode cX5_forGauge 5 = .ok (.idiv, 1) := by decide +kernel
theorem dX5_forGauge_6 : decode cX5_forGauge 6 = .ok (.ireturn, 1) := by decide +kernel
set_option maxRecDepth 20000 in
theorem ggX5_widthAfter_X5_within : GoodIn wsX5_widthAfter wsX5_within := goodIn_r _ [4, 5, 6, 7, 8, 9, 10, 11] (by decide +kernel) (by decide +kernel)
set_option maxRecDepth 20000 in
theorem gX5_widthAfter_X5_within : GoodIn wsX5_widthAfter (va_wsS RX5 112 yX5_within wsX5_within) := goodIn_app (goodIn_of _ (by decide +kernel)) ggX5_widthAfter_X5_within
theorem dX5_widthAfter_0 : decode cX5_widthAfter 0 = .ok (.iload_n 0, 1) := by decide +kernel
theorem dX5_widthAfter_1 : decode cX5_widthAfter 1 = .ok (.iload_n 1, 1) := by decide +kernel
theorem dX5_widthAfter_2 : decode cX5_widthAfter 2 = .ok (.iadd, 1) := by decide +kernel
theorem dX5_widthAfter_3 : decode cX5_widthAfter 3 = .ok (.iconst 1, 1) := by decide +kernel
theorem dX5_widthAfter_4 : decode cX5_widthAfter 4 = .ok (.bipush 40, 2) := by decide +kernel
theorem dX5_widthAfter_6 : decode cX5_widthAfter 6 = .ok (.invokestatic 112, 3) := by decide +kernel
theorem dX5_widthAfter_9 : decode cX5_widthAfter 9 = .ok (.ireturn, 1) := by decide +kernel
theorem dX6_init_0 : decode cX6_init 0 = .ok (.aload_n 0, 1) := by decide +kernel
theorem dX6_init_1 : decode cX6_init 1 = .ok (.invokespecial 1, 3) := by decide +kernel
theorem dX6_init_4 : decode cX6_init 4 = .ok (.aload_n 0, 1) := by decide +kernel
theorem dX6_init_5 : decode cX6_init 5 = .ok (.bipush 16, 2) := by decide +kernel
theorem dX6_init_7 : decode cX6_init 7 = .ok (.newarray .int, 2) := by decide +kernel
theorem dX6_init_9 : decode cX6_init 9 = .ok (.putfield 7, 3) := by decide +kernel
theorem dX6_init_12 : decode cX6_init 12 = .ok (.aload_n 0, 1) := by decide +kernel
theorem dX6_init_13 : decode cX6_init 13 = .ok (.bipush 16, 2) := by decide +kernel
theorem dX6_init_15 : decode cX6_init 15 = .ok (.newarray .int, 2) := by decide +kernel
theorem dX6_init_17 : decode cX6_init 17 = .ok (.putfield 13, 3) := by decide +kernel
theorem dX6_init_20 : decode cX6_init 20 = .ok (.aload_n 0, 1) := by decide +kernel
theorem dX6_init_21 : decode cX6_init 21 = .ok (.bipush 16, 2) := by decide +kernel
theorem dX6_init_23 : decode cX6_init 23 = .ok (.newarray .int, 2) := by decide +kernel
theorem dX6_init_25 : decode cX6_init 25 = .ok (.putfield 16, 3) := by decide +kernel
theorem dX6_init_28 : decode cX6_init 28 = .ok (.aload_n 0, 1) := by decide +kernel
theorem dX6_init_29 : decode cX6_init 29 = .ok (.bipush 16, 2) := by decide +kernel
theorem dX6_init_31 : decode cX6_init 31 = .ok (.newarray .int, 2) := by decide +kernel
theorem dX6_init_33 : decode cX6_init 33 = .ok (.putfield 19, 3) := by decide +kernel
theorem dX6_init_36 : decode cX6_init 36 = .ok (.aload_n 0, 1) := by decide +kernel
theorem dX6_init_37 : decode cX6_init 37 = .ok (.bipush 96, 2) := by decide +kernel
theorem dX6_init_39 : decode cX6_init 39 = .ok (.newarray .int, 2) := by decide +kernel
theorem dX6_init_41 : decode cX6_init 41 = .ok (.putfield 22, 3) := by decide +kernel
theorem dX6_init_44 : decode cX6_init 44 = .ok (.aload_n 0, 1) := by decide +kernel
theorem dX6_init_45 : decode cX6_init 45 = .ok (.bipush 96, 2) := by decide +kernel
theorem dX6_init_47 : decode cX6_init 47 = .ok (.newarray .int, 2) := by decide +kernel
theorem dX6_init_49 : decode cX6_init 49 = .ok (.putfield 25, 3) := by decide +kernel
theorem dX6_init_52 : decode cX6_init 52 = .ok (.aload_n 0, 1) := by decide +kernel
theorem dX6_init_53 : decode cX6_init 53 = .ok (.bipush 96, 2) := by decide +kernel
theorem dX6_init_55 : decode cX6_init 55 = .ok (.newarray .int, 2) := by decide +kernel
theorem dX6_init_57 : decode cX6_init 57 = .ok (.putfield 28, 3) := by decide +kernel
theorem dX6_init_60 : decode cX6_init 60 = .ok (.aload_n 0, 1) := by decide +kernel
theorem dX6_init_61 : decode cX6_init 61 = .ok (.bipush 96, 2) := by decide +kernel
theorem dX6_init_63 : decode cX6_init 63 = .ok (.newarray .int, 2) := by decide +kernel
theorem dX6_init_65 : decode cX6_init 65 = .ok (.putfield 31, 3) := by decide +kernel
theorem dX6_init_68 : decode cX6_init 68 = .ok (.aload_n 0, 1) := by decide +kernel
theorem dX6_init_69 : decode cX6_init 69 = .ok (.bipush 16, 2) := by decide +kernel
theorem dX6_init_71 : decode cX6_init 71 = .ok (.newarray .int, 2) := by decide +kernel
theorem dX6_init_73 : decode cX6_init 73 = .ok (.putfield 34, 3) := by decide +kernel
theorem dX6_init_76 : decode cX6_init 76 = .ok (.aload_n 0, 1) := by decide +kernel
theorem dX6_init_77 : decode cX6_init 77 = .ok (.bipush 16, 2) := by decide +kernel
theorem dX6_init_79 : decode cX6_init 79 = .ok (.newarray .boolean, 2) := by decide +kernel
theorem dX6_init_81 : decode cX6_init 81 = .ok (.putfield 37, 3) := by decide +kernel
theorem dX6_init_84 : decode cX6_init 84 = .ok (.aload_n 0, 1) := by decide +kernel
theorem dX6_init_85 : decode cX6_init 85 = .ok (.bipush 16, 2) := by decide +kernel
theorem dX6_init_87 : decode cX6_init 87 = .ok (.newarray .int, 2) := by decide +kernel
theorem dX6_init_89 : decode cX6_init 89 = .ok (.putfield 41, 3) := by decide +kernel
theorem dX6_init_92 : decode cX6_init 92 = .ok (.aload_n 0, 1) := by decide +kernel
theorem dX6_init_93 : decode cX6_init 93 = .ok (.iconst 5, 1) := by decide +kernel
theorem dX6_init_94 : decode cX6_init 94 = .ok (.newarray .int, 2) := by decide +kernel
theorem dX6_init_96 : decode cX6_init 96 = .ok (.putfield 44, 3) := by decide +kernel
theorem dX6_init_99 : decode cX6_init 99 = .ok (.aload_n 0, 1) := by decide +kernel
theorem dX6_init_100 : decode cX6_init 100 = .ok (.bipush 20, 2) := by decide +kernel
theorem dX6_init_102 : decode cX6_init 102 = .ok (.newarray .int, 2) := by decide +kernel
theorem dX6_init_104 : decode cX6_init 104 = .ok (.putfield 47, 3) := by decide +kernel
theorem dX6_init_107 : decode cX6_init 107 = .ok (.aload_n 0, 1) := by decide +kernel
theorem dX6_init_108 : decode cX6_init 108 = .ok (.bipush 20, 2) := by decide +kernel
theorem dX6_init_110 : decode cX6_init 110 = .ok (.newarray .int, 2) := by decide +kernel
theorem dX6_init_112 : decode cX6_init 112 = .ok (.putfield 50, 3) := by decide +kernel
theorem dX6_init_115 : decode cX6_init 115 = .ok (.aload_n 0, 1) := by decide +kernel
theorem dX6_init_116 : decode cX6_init 116 = .ok (.bipush 20, 2) := by decide +kernel
theorem dX6_init_118 : decode cX6_init 118 = .ok (.newarray .int, 2) := by decide +kernel
theorem dX6_init_120 : decode cX6_init 120 = .ok (.putfield 53, 3) := by decide +kernel
theorem dX6_init_123 : decode cX6_init 123 = .ok (.aload_n 0, 1) := by decide +kernel
theorem dX6_init_124 : decode cX6_init 124 = .ok (.bipush 12, 2) := by decide +kernel
theorem dX6_init_126 : decode cX6_init 126 = .ok (.newarray .int, 2) := by decide +kernel
theorem dX6_init_128 : decode cX6_init 128 = .ok (.putfield 56, 3) := by decide +kernel
theorem dX6_init_131 : decode cX6_init 131 = .ok (.aload_n 0, 1) := by decide +kernel
theorem dX6_init_132 : decode cX6_init 132 = .ok (.bipush 12, 2) := by decide +kernel
theorem dX6_init_134 : decode cX6_init 134 = .ok (.newarray .int, 2) := by decide +kernel
theorem dX6_init_136 : decode cX6_init 136 = .ok (.putfield 59, 3) := by decide +kernel
theorem dX6_init_139 : decode cX6_init 139 = .ok (.aload_n 0, 1) := by decide +kernel
theorem dX6_init_140 : decode cX6_init 140 = .ok (.bipush 12, 2) := by decide +kernel
theorem dX6_init_142 : decode cX6_init 142 = .ok (.newarray .int, 2) := by decide +kernel
theorem dX6_init_144 : decode cX6_init 144 = .ok (.putfield 62, 3) := by decide +kernel
theorem dX6_init_147 : decode cX6_init 147 = .ok (.aload_n 0, 1) := by decide +kernel
theorem dX6_init_148 : decode cX6_init 148 = .ok (.bipush 12, 2) := by decide +kernel
theorem dX6_init_150 : decode cX6_init 150 = .ok (.newarray .int, 2) := by decide +kernel
theorem dX6_init_152 : decode cX6_init 152 = .ok (.putfield 65, 3) := by decide +kernel
theorem dX6_init_155 : decode cX6_init 155 = .ok (.return_, 1) := by decide +kernel
theorem dX6_thrown_0 : decode cX6_thrown 0 = .ok (.aload_n 0, 1) := by decide +kernel
theorem dX6_thrown_1 : decode cX6_thrown 1 = .ok (.getfield 68, 3) := by decide +kernel
theorem dX6_thrown_4 : decode cX6_thrown 4 = .ok (.ireturn, 1) := by decide +kernel
theorem dX6_refused_0 : decode cX6_refused 0 = .ok (.aload_n 0, 1) := by decide +kernel
theorem dX6_refused_1 : decode cX6_refused 1 = .ok (.iload_n 1, 1) := by decide +kernel
theorem dX6_refused_2 : decode cX6_refused 2 = .ok (.putfield 68, 3) := by decide +kernel
theorem dX6_refused_5 : decode cX6_refused 5 = .ok (.iload_n 1, 1) := by decide +kernel
theorem dX6_refused_6 : decode cX6_refused 6 = .ok (.ifCond .eq 7, 3) := by decide +kernel
theorem dX6_refused_9 : decode cX6_refused 9 = .ok (.iconst 1, 1) := by decide +kernel
theorem dX6_refused_10 : decode cX6_refused 10 = .ok (.goto 4, 3) := by decide +kernel
theorem dX6_refused_13 : decode cX6_refused 13 = .ok (.iconst 0, 1) := by decide +kernel
theorem dX6_refused_14 : decode cX6_refused 14 = .ok (.ireturn, 1) := by decide +kernel
theorem dX6_in_0 : decode cX6_in 0 = .ok (.iload_n 0, 1) := by decide +kernel
theorem dX6_in_1 : decode cX6_in 1 = .ok (.iload_n 1, 1) := by decide +kernel
theorem dX6_in_2 : decode cX6_in 2 = .ok (.if_icmp .lt 12, 3) := by decide +kernel
theorem dX6_in_5 : decode cX6_in 5 = .ok (.iload_n 0, 1) := by decide +kernel
theorem dX6_in_6 : decode cX6_in 6 = .ok (.iload_n 2, 1) := by decide +kernel
theorem dX6_in_7 : decode cX6_in 7 = .ok (.if_icmp .gt 7, 3) := by decide +kernel
theorem dX6_in_10 : decode cX6_in 10 = .ok (.iconst 1, 1) := by decide +kernel
theorem dX6_in_11 : decode cX6_in 11 = .ok (.goto 4, 3) := by decide +kernel
theorem dX6_in_14 : decode cX6_in 14 = .ok (.iconst 0, 1) := by decide +kernel
theorem dX6_in_15 : decode cX6_in 15 = .ok (.ireturn, 1) := by decide +kernel
set_option maxRecDepth 20000 in
theorem ggX6_isPerson_X6_in : GoodIn wsX6_isPerson wsX6_in := goodIn_r _ [4] (by decide +kernel) (by decide +kernel)
set_option maxRecDepth 20000 in
theorem gX6_isPerson_X6_in : GoodIn wsX6_isPerson (va_wsS RX6 72 yX6_in wsX6_in) := goodIn_app (goodIn_of _ (by decide +kernel)) ggX6_isPerson_X6_in
theorem dX6_isPerson_0 : decode cX6_isPerson 0 = .ok (.iload_n 0, 1) := by decide +kernel
theorem dX6_isPerson_1 : decode cX6_isPerson 1 = .ok (.iconst 0, 1) := by decide +kernel
theorem dX6_isPerson_2 : decode cX6_isPerson 2 = .ok (.iconst 4, 1) := by decide +kernel
theorem dX6_isPerson_3 : decode cX6_isPerson 3 = .ok (.invokestatic 72, 3) := by decide +kernel
theorem dX6_isPerson_6 : decode cX6_isPerson 6 = .ok (.ireturn, 1) := by decide +kernel
set_option maxRecDepth 20000 in
theorem ggX6_isPattern_X6_in : GoodIn wsX6_isPattern wsX6_in := goodIn_r _ [5] (by decide +kernel) (by decide +kernel)
set_option maxRecDepth 20000 in
theorem gX6_isPattern_X6_in : GoodIn wsX6_isPattern (va_wsS RX6 72 yX6_in wsX6_in) := goodIn_app (goodIn_of _ (by decide +kernel)) ggX6_isPattern_X6_in
theorem dX6_isPattern_0 : decode cX6_isPattern 0 = .ok (.iload_n 1, 1) := by decide +kernel
theorem dX6_isPattern_1 : decode cX6_isPattern 1 = .ok (.iconst 0, 1) := by decide +kernel
theorem dX6_isPattern_2 : decode cX6_isPattern 2 = .ok (.aload_n 0, 1) := by decide +kernel
theorem dX6_isPattern_3 : decode cX6_isPattern 3 = .ok (.getfield 76, 3) := by decide +kernel
theorem dX6_isPattern_6 : decode cX6_isPattern 6 = .ok (.iconst 1, 1) := by decide +kernel
theorem dX6_isPattern_7 : decode cX6_isPattern 7 = .ok (.isub, 1) := by decide +kernel
theorem dX6_isPattern_8 : decode cX6_isPattern 8 = .ok (.invokestatic 72, 3) := by decide +kernel
theorem dX6_isPattern_11 : decode cX6_isPattern 11 = .ok (.ireturn, 1) := by decide +kernel
set_option maxRecDepth 20000 in
theorem ggX6_isLot_X6_in : GoodIn wsX6_isLot wsX6_in := goodIn_r _ [5] (by decide +kernel) (by decide +kernel)
set_option maxRecDepth 20000 in
theorem gX6_isLot_X6_in : GoodIn wsX6_isLot (va_wsS RX6 72 yX6_in wsX6_in) := goodIn_app (goodIn_of _ (by decide +kernel)) ggX6_isLot_X6_in
theorem dX6_isLot_0 : decode cX6_isLot 0 = .ok (.iload_n 1, 1) := by decide +kernel
theorem dX6_isLot_1 : decode cX6_isLot 1 = .ok (.iconst 0, 1) := by decide +kernel
theorem dX6_isLot_2 : decode cX6_isLot 2 = .ok (.aload_n 0, 1) := by decide +kernel
theorem dX6_isLot_3 : decode cX6_isLot 3 = .ok (.getfield 79, 3) := by decide +kernel
theorem dX6_isLot_6 : decode cX6_isLot 6 = .ok (.iconst 1, 1) := by decide +kernel
theorem dX6_isLot_7 : decode cX6_isLot 7 = .ok (.isub, 1) := by decide +kernel
theorem dX6_isLot_8 : decode cX6_isLot 8 = .ok (.invokestatic 72, 3) := by decide +kernel
theorem dX6_isLot_11 : decode cX6_isLot 11 = .ok (.ireturn, 1) := by decide +kernel
set_option maxRecDepth 20000 in
theorem ggX6_isProject_X6_in : GoodIn wsX6_isProject wsX6_in := goodIn_r _ [5] (by decide +kernel) (by decide +kernel)
set_option maxRecDepth 20000 in
theorem gX6_isProject_X6_in : GoodIn wsX6_isProject (va_wsS RX6 72 yX6_in wsX6_in) := goodIn_app (goodIn_of _ (by decide +kernel)) ggX6_isProject_X6_in
theorem dX6_isProject_0 : decode cX6_isProject 0 = .ok (.iload_n 1, 1) := by decide +kernel
theorem dX6_isProject_1 : decode cX6_isProject 1 = .ok (.iconst 0, 1) := by decide +kernel
theorem dX6_isProject_2 : decode cX6_isProject 2 = .ok (.aload_n 0, 1) := by decide +kernel
theorem dX6_isProject_3 : decode cX6_isProject 3 = .ok (.getfield 82, 3) := by decide +kernel
theorem dX6_isProject_6 : decode cX6_isProject 6 = .ok (.iconst 1, 1) := by decide +kernel
theorem dX6_isProject_7 : decode cX6_isProject 7 = .ok (.isub, 1) := by decide +kernel
theorem dX6_isProject_8 : decode cX6_isProject 8 = .ok (.invokestatic 72, 3) := by decide +kernel
theorem dX6_isProject_11 : decode cX6_isProject 11 = .ok (.ireturn, 1) := by decide +kernel
theorem dX6_added_0 : decode cX6_added 0 = .ok (.aload_n 0, 1) := by decide +kernel
theorem dX6_added_1 : decode cX6_added 1 = .ok (.getfield 7, 3) := by decide +kernel
theorem dX6_added_4 : decode cX6_added 4 = .ok (.aload_n 0, 1) := by decide +kernel
theorem dX6_added_5 : decode cX6_added 5 = .ok (.getfield 76, 3) := by decide +kernel
theorem dX6_added_8 : decode cX6_added 8 = .ok (.iload_n 1, 1) := by decide +kernel
theorem dX6_added_9 : decode cX6_added 9 = .ok (.iastore, 1) := by decide +kernel
theorem dX6_added_10 : decode cX6_added 10 = .ok (.aload_n 0, 1) := by decide +kernel
theorem dX6_added_11 : decode cX6_added 11 = .ok (.getfield 13, 3) := by decide +kernel
theorem dX6_added_14 : decode cX6_added 14 = .ok (.aload_n 0, 1) := by decide +kernel
theorem dX6_added_15 : decode cX6_added 15 = .ok (.getfield 76, 3) := by decide +kernel
theorem dX6_added_18 : decode cX6_added 18 = .ok (.iload_n 2, 1) := by decide +kernel
theorem dX6_added_19 : decode cX6_added 19 = .ok (.iastore, 1) := by decide +kernel
theorem dX6_added_20 : decode cX6_added 20 = .ok (.aload_n 0, 1) := by decide +kernel
theorem dX6_added_21 : decode cX6_added 21 = .ok (.getfield 16, 3) := by decide +kernel
theorem dX6_added_24 : decode cX6_added 24 = .ok (.aload_n 0, 1) := by decide +kernel
theorem dX6_added_25 : decode cX6_added 25 = .ok (.getfield 76, 3) := by decide +kernel
theorem dX6_added_28 : decode cX6_added 28 = .ok (.iload_n 3, 1) := by decide +kernel
theorem dX6_added_29 : decode cX6_added 29 = .ok (.iastore, 1) := by decide +kernel
theorem dX6_added_30 : decode cX6_added 30 = .ok (.aload_n 0, 1) := by decide +kernel
theorem dX6_added_31 : decode cX6_added 31 = .ok (.getfield 34, 3) := by decide +kernel
theorem dX6_added_34 : decode cX6_added 34 = .ok (.aload_n 0, 1) := by decide +kernel
theorem dX6_added_35 : decode cX6_added 35 = .ok (.getfield 76, 3) := by decide +kernel
theorem dX6_added_38 : decode cX6_added 38 = .ok (.bipush 99, 2) := by decide +kernel
theorem dX6_added_40 : decode cX6_added 40 = .ok (.iastore, 1) := by decide +kernel
theorem dX6_added_41 : decode cX6_added 41 = .ok (.aload_n 0, 1) := by decide +kernel
theorem dX6_added_42 : decode cX6_added 42 = .ok (.dup, 1) := by decide +kernel
theorem dX6_added_43 : decode cX6_added 43 = .ok (.getfield 76, 3) := by decide +kernel
theorem dX6_added_46 : decode cX6_added 46 = .ok (.iconst 1, 1) := by decide +kernel
theorem dX6_added_47 : decode cX6_added 47 = .ok (.iadd, 1) := by decide +kernel
theorem dX6_added_48 : decode cX6_added 48 = .ok (.putfield 76, 3) := by decide +kernel
theorem dX6_added_51 : decode cX6_added 51 = .ok (.aload_n 0, 1) := by decide +kernel
theorem dX6_added_52 : decode cX6_added 52 = .ok (.getfield 76, 3) := by decide +kernel
theorem dX6_added_55 : decode cX6_added 55 = .ok (.iconst 1, 1) := by decide +kernel
theorem dX6_added_56 : decode cX6_added 56 = .ok (.isub, 1) := by decide +kernel
theorem dX6_added_57 : decode cX6_added 57 = .ok (.ireturn, 1) := by decide +kernel
set_option maxRecDepth 20000 in
theorem ggX6_begin_X6_in : GoodIn wsX6_begin wsX6_in := goodIn_r _ [5] (by decide +kernel) (by decide +kernel)
set_option maxRecDepth 20000 in
theorem gX6_begin_X6_in : GoodIn wsX6_begin (va_wsS RX6 72 yX6_in wsX6_in) := goodIn_app (goodIn_of _ (by decide +kernel)) ggX6_begin_X6_in
set_option maxRecDepth 20000 in
theorem ggX6_begin_X6_isPerson : GoodIn wsX6_begin wsX6_isPerson := goodIn_r _ [8, 2, 3, 4, 5] (by decide +kernel) (by decide +kernel)
set_option maxRecDepth 20000 in
theorem gX6_begin_X6_isPerson : GoodIn wsX6_begin (va_wsS RX6 85 yX6_isPerson wsX6_isPerson) := goodIn_app (goodIn_of _ (by decide +kernel)) ggX6_begin_X6_isPerson
set_option maxRecDepth 20000 in
theorem ggX6_begin_X6_refused : GoodIn wsX6_begin wsX6_refused := goodIn_r _ [12, 13, 22, 23, 24, 25, 26, 27, 28, 29, 30, 31, 32, 33, 34, 35, 36, 37, 38, 39, 40, 41, 42, 43, 44, 45, 46, 47] (by decide +kernel) (by decide +kernel)
set_option maxRecDepth 20000 in
theorem gX6_begin_X6_refused : GoodIn wsX6_begin (wsV RX6 89 RX6 yX6_refused wsX6_refused) := goodIn_app (goodIn_of _ (by decide +kernel)) ggX6_begin_X6_refused
set_option maxRecDepth 20000 in
theorem ggX6_begin_X6_added : GoodIn wsX6_begin wsX6_added := goodIn_r _ [17, 18, 1, 19, 20, 21, 22, 23, 24, 25, 26, 27, 28, 29, 30, 31, 32, 33, 34, 35, 36, 37, 38, 39, 40, 41, 42, 43, 44, 45, 46, 47] (by decide +kernel) (by decide +kernel)
set_option maxRecDepth 20000 in
theorem gX6_begin_X6_added : GoodIn wsX6_begin (wsV RX6 92 RX6 yX6_added wsX6_added) := goodIn_app (goodIn_of _ (by decide +kernel)) ggX6_begin_X6_added
theorem dX6_begin_0 : decode cX6_begin 0 = .ok (.iload_n 2, 1) := by decide +kernel
theorem dX6_begin_1 : decode cX6_begin 1 = .ok (.iconst 1, 1) := by decide +kernel
theorem dX6_begin_2 : decode cX6_begin 2 = .ok (.bipush 20, 2) := by decide +kernel
theorem dX6_begin_4 : decode cX6_begin 4 = .ok (.invokestatic 72, 3) := by decide +kernel
theorem dX6_begin_7 : decode cX6_begin 7 = .ok (.ifCond .eq 18, 3) := by decide +kernel
theorem dX6_begin_10 : decode cX6_begin 10 = .ok (.iload_n 3, 1) := by decide +kernel
theorem dX6_begin_11 : decode cX6_begin 11 = .ok (.iconst 0, 1) := by decide +kernel
theorem dX6_begin_12 : decode cX6_begin 12 = .ok (.sipush 1000, 3) := by decide +kernel
theorem dX6_begin_15 : decode cX6_begin 15 = .ok (.invokestatic 72, 3) := by decide +kernel
theorem dX6_begin_18 : decode cX6_begin 18 = .ok (.ifCond .eq 7, 3) := by decide +kernel
theorem dX6_begin_21 : decode cX6_begin 21 = .ok (.iconst 1, 1) := by decide +kernel
theorem dX6_begin_22 : decode cX6_begin 22 = .ok (.goto 4, 3) := by decide +kernel
theorem dX6_begin_25 : decode cX6_begin 25 = .ok (.iconst 0, 1) := by decide +kernel
theorem dX6_begin_26 : decode cX6_begin 26 = .ok (.istore 4, 2) := by decide +kernel
theorem dX6_begin_28 : decode cX6_begin 28 = .ok (.aload_n 0, 1) := by decide +kernel
theorem dX6_begin_29 : decode cX6_begin 29 = .ok (.iload_n 1, 1) := by decide +kernel
theorem dX6_begin_30 : decode cX6_begin 30 = .ok (.invokestatic 85, 3) := by decide +kernel
theorem dX6_begin_33 : decode cX6_begin 33 = .ok (.ifCond .ne 7, 3) := by decide +kernel
theorem dX6_begin_36 : decode cX6_begin 36 = .ok (.iconst 1, 1) := by decide +kernel
theorem dX6_begin_37 : decode cX6_begin 37 = .ok (.goto 26, 3) := by decide +kernel
theorem dX6_begin_40 : decode cX6_begin 40 = .ok (.iload 4, 2) := by decide +kernel
theorem dX6_begin_42 : decode cX6_begin 42 = .ok (.ifCond .ne 7, 3) := by decide +kernel
theorem dX6_begin_45 : decode cX6_begin 45 = .ok (.iconst 2, 1) := by decide +kernel
theorem dX6_begin_46 : decode cX6_begin 46 = .ok (.goto 17, 3) := by decide +kernel
theorem dX6_begin_49 : decode cX6_begin 49 = .ok (.aload_n 0, 1) := by decide +kernel
theorem dX6_begin_50 : decode cX6_begin 50 = .ok (.getfield 76, 3) := by decide +kernel
theorem dX6_begin_53 : decode cX6_begin 53 = .ok (.bipush 16, 2) := by decide +kernel
theorem dX6_begin_55 : decode cX6_begin 55 = .ok (.if_icmp .ne 7, 3) := by decide +kernel
theorem dX6_begin_58 : decode cX6_begin 58 = .ok (.iconst 3, 1) := by decide +kernel
theorem dX6_begin_59 : decode cX6_begin 59 = .ok (.goto 4, 3) := by decide +kernel
theorem dX6_begin_62 : decode cX6_begin 62 = .ok (.iconst 0, 1) := by decide +kernel
theorem dX6_begin_63 : decode cX6_begin 63 = .ok (.invokevirtual 89, 3) := by decide +kernel
theorem dX6_begin_66 : decode cX6_begin 66 = .ok (.ifCond .eq 5, 3) := by decide +kernel
theorem dX6_begin_69 : decode cX6_begin 69 = .ok (.iconst 0, 1) := by decide +kernel
theorem dX6_begin_70 : decode cX6_begin 70 = .ok (.ireturn, 1) := by decide +kernel
theorem dX6_begin_71 : decode cX6_begin 71 = .ok (.aload_n 0, 1) := by decide +kernel
theorem dX6_begin_72 : decode cX6_begin 72 = .ok (.iload_n 1, 1) := by decide +kernel
theorem dX6_begin_73 : decode cX6_begin 73 = .ok (.iload_n 2, 1) := by decide +kernel
theorem dX6_begin_74 : decode cX6_begin 74 = .ok (.iload_n 3, 1) := by decide +kernel
theorem dX6_begin_75 : decode cX6_begin 75 = .ok (.invokevirtual 92, 3) := by decide +kernel
theorem dX6_begin_78 : decode cX6_begin 78 = .ok (.ireturn, 1) := by decide +kernel
theorem dX6_rowsOf_0 : decode cX6_rowsOf 0 = .ok (.iconst 0, 1) := by decide +kernel
theorem dX6_rowsOf_1 : decode cX6_rowsOf 1 = .ok (.istore_n 2, 1) := by decide +kernel
theorem dX6_rowsOf_2 : decode cX6_rowsOf 2 = .ok (.iconst 0, 1) := by decide +kernel
theorem dX6_rowsOf_3 : decode cX6_rowsOf 3 = .ok (.istore_n 3, 1) := by decide +kernel
theorem dX6_rowsOf_4 : decode cX6_rowsOf 4 = .ok (.iload_n 3, 1) := by decide +kernel
theorem dX6_rowsOf_5 : decode cX6_rowsOf 5 = .ok (.aload_n 0, 1) := by decide +kernel
theorem dX6_rowsOf_6 : decode cX6_rowsOf 6 = .ok (.getfield 19, 3) := by decide +kernel
theorem dX6_rowsOf_9 : decode cX6_rowsOf 9 = .ok (.iload_n 1, 1) := by decide +kernel
theorem dX6_rowsOf_10 : decode cX6_rowsOf 10 = .ok (.iaload, 1) := by decide +kernel
theorem dX6_rowsOf_11 : decode cX6_rowsOf 11 = .ok (.if_icmp .ge 23, 3) := by decide +kernel
theorem dX6_rowsOf_14 : decode cX6_rowsOf 14 = .ok (.iload_n 2, 1) := by decide +kernel
theorem dX6_rowsOf_15 : decode cX6_rowsOf 15 = .ok (.aload_n 0, 1) := by decide +kernel
theorem dX6_rowsOf_16 : decode cX6_rowsOf 16 = .ok (.getfield 31, 3) := by decide +kernel
theorem dX6_rowsOf_19 : decode cX6_rowsOf 19 = .ok (.bipush 6, 2) := by decide +kernel
theorem dX6_rowsOf_21 : decode cX6_rowsOf 21 = .ok (.iload_n 1, 1) := by decide +kernel
theorem dX6_rowsOf_22 : decode cX6_rowsOf 22 = .ok (.imul, 1) := by decide +kernel
theorem dX6_rowsOf_23 : decode cX6_rowsOf 23 = .ok (.iload_n 3, 1) := by decide +kernel
theorem dX6_rowsOf_24 : decode cX6_rowsOf 24 = .ok (.iadd, 1) := by decide +kernel
theorem dX6_rowsOf_25 : decode cX6_rowsOf 25 = .ok (.iaload, 1) := by decide +kernel
theorem dX6_rowsOf_26 : decode cX6_rowsOf 26 = .ok (.iadd, 1) := by decide +kernel
theorem dX6_rowsOf_27 : decode cX6_rowsOf 27 = .ok (.istore_n 2, 1) := by decide +kernel
theorem dX6_rowsOf_28 : decode cX6_rowsOf 28 = .ok (.iinc 3 1, 3) := by decide +kernel
theorem dX6_rowsOf_31 : decode cX6_rowsOf 31 = .ok (.goto (-27), 3) := by decide +kernel
theorem dX6_rowsOf_34 : decode cX6_rowsOf 34 = .ok (.iload_n 2, 1) := by decide +kernel
theorem dX6_rowsOf_35 : decode cX6_rowsOf 35 = .ok (.ireturn, 1) := by decide +kernel
theorem dX6_put_0 : decode cX6_put 0 = .ok (.bipush 6, 2) := by decide +kernel
theorem dX6_put_2 : decode cX6_put 2 = .ok (.iload_n 1, 1) := by decide +kernel
theorem dX6_put_3 : decode cX6_put 3 = .ok (.imul, 1) := by decide +kernel
theorem dX6_put_4 : decode cX6_put 4 = .ok (.aload_n 0, 1) := by decide +kernel
theorem dX6_put_5 : decode cX6_put 5 = .ok (.getfield 19, 3) := by decide +kernel
theorem dX6_put_8 : decode cX6_put 8 = .ok (.iload_n 1, 1) := by decide +kernel
theorem dX6_put_9 : decode cX6_put 9 = .ok (.iaload, 1) := by decide +kernel
theorem dX6_put_10 : decode cX6_put 10 = .ok (.iadd, 1) := by decide +kernel
theorem dX6_put_11 : decode cX6_put 11 = .ok (.istore 6, 2) := by decide +kernel
theorem dX6_put_13 : decode cX6_put 13 = .ok (.aload_n 0, 1) := by decide +kernel
theorem dX6_put_14 : decode cX6_put 14 = .ok (.getfield 22, 3) := by decide +kernel
theorem dX6_put_17 : decode cX6_put 17 = .ok (.iload 6, 2) := by decide +kernel
theorem dX6_put_19 : decode cX6_put 19 = .ok (.iload_n 2, 1) := by decide +kernel
theorem dX6_put_20 : decode cX6_put 20 = .ok (.iastore, 1) := by decide +kernel
theorem dX6_put_21 : decode cX6_put 21 = .ok (.aload_n 0, 1) := by decide +kernel
theorem dX6_put_22 : decode cX6_put 22 = .ok (.getfield 25, 3) := by decide +kernel
theorem dX6_put_25 : decode cX6_put 25 = .ok (.iload 6, 2) := by decide +kernel
theorem dX6_put_27 : decode cX6_put 27 = .ok (.iload_n 3, 1) := by decide +kernel
theorem dX6_put_28 : decode cX6_put 28 = .ok (.iastore, 1) := by decide +kernel
theorem dX6_put_29 : decode cX6_put 29 = .ok (.aload_n 0, 1) := by decide +kernel
theorem dX6_put_30 : decode cX6_put 30 = .ok (.getfield 28, 3) := by decide +kernel
theorem dX6_put_33 : decode cX6_put 33 = .ok (.iload 6, 2) := by decide +kernel
theorem dX6_put_35 : decode cX6_put 35 = .ok (.iload 4, 2) := by decide +kernel
theorem dX6_put_37 : decode cX6_put 37 = .ok (.iastore, 1) := by decide +kernel
theorem dX6_put_38 : decode cX6_put 38 = .ok (.aload_n 0, 1) := by decide +kernel
theorem dX6_put_39 : decode cX6_put 39 = .ok (.getfield 31, 3) := by decide +kernel
theorem dX6_put_42 : decode cX6_put 42 = .ok (.iload 6, 2) := by decide +kernel
theorem dX6_put_44 : decode cX6_put 44 = .ok (.iload 5, 2) := by decide +kernel
theorem dX6_put_46 : decode cX6_put 46 = .ok (.iastore, 1) := by decide +kernel
theorem dX6_put_47 : decode cX6_put 47 = .ok (.aload_n 0, 1) := by decide +kernel
theorem dX6_put_48 : decode cX6_put 48 = .ok (.getfield 19, 3) := by decide +kernel
theorem dX6_put_51 : decode cX6_put 51 = .ok (.iload_n 1, 1) := by decide +kernel
theorem dX6_put_52 : decode cX6_put 52 = .ok (.dup2, 1) := by decide +kernel
theorem dX6_put_53 : decode cX6_put 53 = .ok (.iaload, 1) := by decide +kernel
theorem dX6_put_54 : decode cX6_put 54 = .ok (.iconst 1, 1) := by decide +kernel
theorem dX6_put_55 : decode cX6_put 55 = .ok (.iadd, 1) := by decide +kernel
theorem dX6_put_56 : decode cX6_put 56 = .ok (.iastore, 1) := by decide +kernel
theorem dX6_put_57 : decode cX6_put 57 = .ok (.return_, 1) := by decide +kernel
theorem dX6_isPublished_0 : decode cX6_isPublished 0 = .ok (.aload_n 0, 1) := by decide +kernel
theorem dX6_isPublished_1 : decode cX6_isPublished 1 = .ok (.getfield 34, 3) := by decide +kernel
theorem dX6_isPublished_4 : decode cX6_isPublished 4 = .ok (.iload_n 1, 1) := by decide +kernel
theorem dX6_isPublished_5 : decode cX6_isPublished 5 = .ok (.iaload, 1) := by decide +kernel
theorem dX6_isPublished_6 : decode cX6_isPublished 6 = .ok (.bipush 99, 2) := by decide +kernel
theorem dX6_isPublished_8 : decode cX6_isPublished 8 = .ok (.if_icmp .eq 7, 3) := by decide +kernel
theorem dX6_isPublished_11 : decode cX6_isPublished 11 = .ok (.iconst 1, 1) := by decide +kernel
theorem dX6_isPublished_12 : decode cX6_isPublished 12 = .ok (.goto 4, 3) := by decide +kernel
theorem dX6_isPublished_15 : decode cX6_isPublished 15 = .ok (.iconst 0, 1) := by decide +kernel
theorem dX6_isPublished_16 : decode cX6_isPublished 16 = .ok (.ireturn, 1) := by decide +kernel
set_option maxRecDepth 20000 in
theorem ggX6_line_X6_in : GoodIn wsX6_line wsX6_in := goodIn_r _ [5] (by decide +kernel) (by decide +kernel)
set_option maxRecDepth 20000 in
theorem gX6_line_X6_in : GoodIn wsX6_line (va_wsS RX6 72 yX6_in wsX6_in) := goodIn_app (goodIn_of _ (by decide +kernel)) ggX6_line_X6_in
set_option maxRecDepth 20000 in
theorem ggX6_line_X6_isPattern : GoodIn wsX6_line wsX6_isPattern := goodIn_r _ [9, 10, 2, 3, 4, 5, 33, 34, 35, 36, 37, 38, 39, 40, 41, 42, 43, 44, 45, 46, 47, 48, 49, 50, 51, 52, 53, 54, 55, 56, 57, 58] (by decide +kernel) (by decide +kernel)
set_option maxRecDepth 20000 in
theorem gX6_line_X6_isPattern : GoodIn wsX6_line (wsV RX6 96 RX6 yX6_isPattern wsX6_isPattern) := goodIn_app (goodIn_of _ (by decide +kernel)) ggX6_line_X6_isPattern
set_option maxRecDepth 20000 in
theorem ggX6_line_X6_isPublished : GoodIn wsX6_line wsX6_isPublished := goodIn_r _ [14, 15, 33, 34, 35, 36, 37, 38, 39, 40, 41, 42, 43, 44, 45, 46, 47, 48, 49, 50, 51, 52, 53, 54, 55, 56, 57, 58] (by decide +kernel) (by decide +kernel)
set_option maxRecDepth 20000 in
theorem gX6_line_X6_isPublished : GoodIn wsX6_line (wsV RX6 99 RX6 yX6_isPublished wsX6_isPublished) := goodIn_app (goodIn_of _ (by decide +kernel)) ggX6_line_X6_isPublished
set_option maxRecDepth 20000 in
theorem ggX6_line_X6_rowsOf : GoodIn wsX6_line wsX6_rowsOf := goodIn_r _ [19, 1, 20, 33, 34, 35, 36, 37, 38, 39, 40, 41, 42, 43, 44, 45, 46, 47, 48, 49, 50, 51, 52, 53, 54, 55, 56, 57, 58] (by decide +kernel) (by decide +kernel)
set_option maxRecDepth 20000 in
theorem gX6_line_X6_rowsOf : GoodIn wsX6_line (wsV RX6 102 RX6 yX6_rowsOf wsX6_rowsOf) := goodIn_app (goodIn_of _ (by decide +kernel)) ggX6_line_X6_rowsOf
set_option maxRecDepth 20000 in
theorem ggX6_line_X6_refused : GoodIn wsX6_line wsX6_refused := goodIn_r _ [24, 25, 33, 34, 35, 36, 37, 38, 39, 40, 41, 42, 43, 44, 45, 46, 47, 48, 49, 50, 51, 52, 53, 54, 55, 56, 57, 58] (by decide +kernel) (by decide +kernel)
set_option maxRecDepth 20000 in
theorem gX6_line_X6_refused : GoodIn wsX6_line (wsV RX6 89 RX6 yX6_refused wsX6_refused) := goodIn_app (goodIn_of _ (by decide +kernel)) ggX6_line_X6_refused
set_option maxRecDepth 20000 in
theorem ggX6_line_X6_put : GoodIn wsX6_line wsX6_put := goodIn_r _ [29, 1, 30, 31, 32, 20, 33, 34, 35, 36, 37, 38, 39, 40, 41, 42, 43, 44, 45, 46, 47, 48, 49, 50, 51, 52, 53, 54, 55, 56, 57, 58] (by decide +kernel) (by decide +kernel)
set_option maxRecDepth 20000 in
theorem gX6_line_X6_put : GoodIn wsX6_line (wsV RX6 106 RX6 yX6_put wsX6_put) := goodIn_app (goodIn_of _ (by decide +kernel)) ggX6_line_X6_put
theorem dX6_line_0 : decode cX6_line 0 = .ok (.iload_n 2, 1) := by decide +kernel
theorem dX6_line_1 : decode cX6_line 1 = .ok (.iconst 0, 1) := by decide +kernel
theorem dX6_line_2 : decode cX6_line 2 = .ok (.bipush 9, 2) := by decide +kernel
theorem dX6_line_4 : decode cX6_line 4 = .ok (.invokestatic 72, 3) := by decide +kernel
theorem dX6_line_7 : decode cX6_line 7 = .ok (.ifCond .eq 45, 3) := by decide +kernel
theorem dX6_line_10 : decode cX6_line 10 = .ok (.iload_n 3, 1) := by decide +kernel
theorem dX6_line_11 : decode cX6_line 11 = .ok (.iconst 0, 1) := by decide +kernel
theorem dX6_line_12 : decode cX6_line 12 = .ok (.bipush 9, 2) := by decide +kernel
theorem dX6_line_14 : decode cX6_line 14 = .ok (.invokestatic 72, 3) := by decide +kernel
theorem dX6_line_17 : decode cX6_line 17 = .ok (.ifCond .eq 35, 3) := by decide +kernel
theorem dX6_line_20 : decode cX6_line 20 = .ok (.iload_n 2, 1) := by decide +kernel
theorem dX6_line_21 : decode cX6_line 21 = .ok (.iload_n 3, 1) := by decide +kernel
theorem dX6_line_22 : decode cX6_line 22 = .ok (.iadd, 1) := by decide +kernel
theorem dX6_line_23 : decode cX6_line 23 = .ok (.ifCond .le 29, 3) := by decide +kernel
theorem dX6_line_26 : decode cX6_line 26 = .ok (.iload 4, 2) := by decide +kernel
theorem dX6_line_28 : decode cX6_line 28 = .ok (.bipush (-3), 2) := by decide +kernel
theorem dX6_line_30 : decode cX6_line 30 = .ok (.iconst 3, 1) := by decide +kernel
theorem dX6_line_31 : decode cX6_line 31 = .ok (.invokestatic 72, 3) := by decide +kernel
theorem dX6_line_34 : decode cX6_line 34 = .ok (.ifCond .eq 18, 3) := by decide +kernel
theorem dX6_line_37 : decode cX6_line 37 = .ok (.iload 5, 2) := by decide +kernel
theorem dX6_line_39 : decode cX6_line 39 = .ok (.iconst 1, 1) := by decide +kernel
theorem dX6_line_40 : decode cX6_line 40 = .ok (.bipush 20, 2) := by decide +kernel
theorem dX6_line_42 : decode cX6_line 42 = .ok (.invokestatic 72, 3) := by decide +kernel
theorem dX6_line_45 : decode cX6_line 45 = .ok (.ifCond .eq 7, 3) := by decide +kernel
theorem dX6_line_48 : decode cX6_line 48 = .ok (.iconst 1, 1) := by decide +kernel
theorem dX6_line_49 : decode cX6_line 49 = .ok (.goto 4, 3) := by decide +kernel
theorem dX6_line_52 : decode cX6_line 52 = .ok (.iconst 0, 1) := by decide +kernel
theorem dX6_line_53 : decode cX6_line 53 = .ok (.istore 6, 2) := by decide +kernel
theorem dX6_line_55 : decode cX6_line 55 = .ok (.aload_n 0, 1) := by decide +kernel
theorem dX6_line_56 : decode cX6_line 56 = .ok (.iload_n 1, 1) := by decide +kernel
theorem dX6_line_57 : decode cX6_line 57 = .ok (.invokevirtual 96, 3) := by decide +kernel
theorem dX6_line_60 : decode cX6_line 60 = .ok (.ifCond .eq 44, 3) := by decide +kernel
theorem dX6_line_63 : decode cX6_line 63 = .ok (.iload 6, 2) := by decide +kernel
theorem dX6_line_65 : decode cX6_line 65 = .ok (.ifCond .eq 39, 3) := by decide +kernel
theorem dX6_line_68 : decode cX6_line 68 = .ok (.aload_n 0, 1) := by decide +kernel
theorem dX6_line_69 : decode cX6_line 69 = .ok (.iload_n 1, 1) := by decide +kernel
theorem dX6_line_70 : decode cX6_line 70 = .ok (.invokevirtual 99, 3) := by decide +kernel
theorem dX6_line_73 : decode cX6_line 73 = .ok (.ifCond .ne 31, 3) := by decide +kernel
theorem dX6_line_76 : decode cX6_line 76 = .ok (.aload_n 0, 1) := by decide +kernel
theorem dX6_line_77 : decode cX6_line 77 = .ok (.getfield 19, 3) := by decide +kernel
theorem dX6_line_80 : decode cX6_line 80 = .ok (.iload_n 1, 1) := by decide +kernel
theorem dX6_line_81 : decode cX6_line 81 = .ok (.iaload, 1) := by decide +kernel
theorem dX6_line_82 : decode cX6_line 82 = .ok (.bipush 6, 2) := by decide +kernel
theorem dX6_line_84 : decode cX6_line 84 = .ok (.if_icmp .ge 20, 3) := by decide +kernel
theorem dX6_line_87 : decode cX6_line 87 = .ok (.aload_n 0, 1) := by decide +kernel
theorem dX6_line_88 : decode cX6_line 88 = .ok (.iload_n 1, 1) := by decide +kernel
theorem dX6_line_89 : decode cX6_line 89 = .ok (.invokevirtual 102, 3) := by decide +kernel
theorem dX6_line_92 : decode cX6_line 92 = .ok (.iload 5, 2) := by decide +kernel
theorem dX6_line_94 : decode cX6_line 94 = .ok (.iadd, 1) := by decide +kernel
theorem dX6_line_95 : decode cX6_line 95 = .ok (.bipush 40, 2) := by decide +kernel
theorem dX6_line_97 : decode cX6_line 97 = .ok (.if_icmp .gt 7, 3) := by decide +kernel
theorem dX6_line_100 : decode cX6_line 100 = .ok (.iconst 1, 1) := by decide +kernel
theorem dX6_line_101 : decode cX6_line 101 = .ok (.goto 4, 3) := by decide +kernel
theorem dX6_line_104 : decode cX6_line 104 = .ok (.iconst 0, 1) := by decide +kernel
theorem dX6_line_105 : decode cX6_line 105 = .ok (.istore 7, 2) := by decide +kernel
theorem dX6_line_107 : decode cX6_line 107 = .ok (.aload_n 0, 1) := by decide +kernel
theorem dX6_line_108 : decode cX6_line 108 = .ok (.aload_n 0, 1) := by decide +kernel
theorem dX6_line_109 : decode cX6_line 109 = .ok (.iload_n 1, 1) := by decide +kernel
theorem dX6_line_110 : decode cX6_line 110 = .ok (.invokevirtual 96, 3) := by decide +kernel
theorem dX6_line_113 : decode cX6_line 113 = .ok (.ifCond .ne 7, 3) := by decide +kernel
theorem dX6_line_116 : decode cX6_line 116 = .ok (.iconst 1, 1) := by decide +kernel
theorem dX6_line_117 : decode cX6_line 117 = .ok (.goto 22, 3) := by decide +kernel
theorem dX6_line_120 : decode cX6_line 120 = .ok (.iload 6, 2) := by decide +kernel
theorem dX6_line_122 : decode cX6_line 122 = .ok (.ifCond .ne 7, 3) := by decide +kernel
theorem dX6_line_125 : decode cX6_line 125 = .ok (.iconst 2, 1) := by decide +kernel
theorem dX6_line_126 : decode cX6_line 126 = .ok (.goto 13, 3) := by decide +kernel
theorem dX6_line_129 : decode cX6_line 129 = .ok (.iload 7, 2) := by decide +kernel
theorem dX6_line_131 : decode cX6_line 131 = .ok (.ifCond .eq 7, 3) := by decide +kernel
theorem dX6_line_134 : decode cX6_line 134 = .ok (.iconst 0, 1) := by decide +kernel
theorem dX6_line_135 : decode cX6_line 135 = .ok (.goto 4, 3) := by decide +kernel
theorem dX6_line_138 : decode cX6_line 138 = .ok (.iconst 3, 1) := by decide +kernel
theorem dX6_line_139 : decode cX6_line 139 = .ok (.invokevirtual 89, 3) := by decide +kernel
theorem dX6_line_142 : decode cX6_line 142 = .ok (.ifCond .eq 5, 3) := by decide +kernel
theorem dX6_line_145 : decode cX6_line 145 = .ok (.iconst 0, 1) := by decide +kernel
theorem dX6_line_146 : decode cX6_line 146 = .ok (.ireturn, 1) := by decide +kernel
theorem dX6_line_147 : decode cX6_line 147 = .ok (.aload_n 0, 1) := by decide +kernel
theorem dX6_line_148 : decode cX6_line 148 = .ok (.iload_n 1, 1) := by decide +kernel
theorem dX6_line_149 : decode cX6_line 149 = .ok (.iload_n 2, 1) := by decide +kernel
theorem dX6_line_150 : decode cX6_line 150 = .ok (.iload_n 3, 1) := by decide +kernel
theorem dX6_line_151 : decode cX6_line 151 = .ok (.iload 4, 2) := by decide +kernel
theorem dX6_line_153 : decode cX6_line 153 = .ok (.iload 5, 2) := by decide +kernel
theorem dX6_line_155 : decode cX6_line 155 = .ok (.invokevirtual 106, 3) := by decide +kernel
theorem dX6_line_158 : decode cX6_line 158 = .ok (.aload_n 0, 1) := by decide +kernel
theorem dX6_line_159 : decode cX6_line 159 = .ok (.iload_n 1, 1) := by decide +kernel
theorem dX6_line_160 : decode cX6_line 160 = .ok (.invokevirtual 102, 3) := by decide +kernel
theorem dX6_line_163 : decode cX6_line 163 = .ok (.ireturn, 1) := by decide +kernel
theorem dX6_oftenAnew_0 : decode cX6_oftenAnew 0 = .ok (.aload_n 0, 1) := by decide +kernel
theorem dX6_oftenAnew_1 : decode cX6_oftenAnew 1 = .ok (.getfield 31, 3) := by decide +kernel
theorem dX6_oftenAnew_4 : decode cX6_oftenAnew 4 = .ok (.iload_n 1, 1) := by decide +kernel
theorem dX6_oftenAnew_5 : decode cX6_oftenAnew 5 = .ok (.iaload, 1) := by decide +kernel
theorem dX6_oftenAnew_6 : decode cX6_oftenAnew 6 = .ok (.iload_n 2, 1) := by decide +kernel
theorem dX6_oftenAnew_7 : decode cX6_oftenAnew 7 = .ok (.imul, 1) := by decide +kernel
theorem dX6_oftenAnew_8 : decode cX6_oftenAnew 8 = .ok (.bipush 10, 2) := by decide +kernel
theorem dX6_oftenAnew_10 : decode cX6_oftenAnew 10 = .ok (.idiv, 1) := by decide +kernel
theorem dX6_oftenAnew_11 : decode cX6_oftenAnew 11 = .ok (.istore_n 3, 1) := by decide +kernel
theorem dX6_oftenAnew_12 : decode cX6_oftenAnew 12 = .ok (.iload_n 3, 1) := by decide +kernel
theorem dX6_oftenAnew_13 : decode cX6_oftenAnew 13 = .ok (.iconst 1, 1) := by decide +kernel
theorem dX6_oftenAnew_14 : decode cX6_oftenAnew 14 = .ok (.if_icmp .ge 7, 3) := by decide +kernel
theorem dX6_oftenAnew_17 : decode cX6_oftenAnew 17 = .ok (.iconst 1, 1) := by decide +kernel
theorem dX6_oftenAnew_18 : decode cX6_oftenAnew 18 = .ok (.goto 4, 3) := by decide +kernel
theorem dX6_oftenAnew_21 : decode cX6_oftenAnew 21 = .ok (.iload_n 3, 1) := by decide +kernel
theorem dX6_oftenAnew_22 : decode cX6_oftenAnew 22 = .ok (.ireturn, 1) := by decide +kernel
set_option maxRecDepth 20000 in
theorem ggX6_anew_X6_in : GoodIn wsX6_anew wsX6_in := goodIn_r _ [12] (by decide +kernel) (by decide +kernel)
set_option maxRecDepth 20000 in
theorem gX6_anew_X6_in : GoodIn wsX6_anew (va_wsS RX6 72 yX6_in wsX6_in) := goodIn_app (goodIn_of _ (by decide +kernel)) ggX6_anew_X6_in
set_option maxRecDepth 20000 in
theorem ggX6_anew_X6_isPattern : GoodIn wsX6_anew wsX6_isPattern := goodIn_r _ [16, 2, 9, 10, 11, 12, 36, 37, 38, 39, 40, 41, 42, 43, 44, 45, 46, 47, 48, 49, 50, 51, 52, 53, 54, 55, 56, 57, 58, 59, 60, 61] (by decide +kernel) (by decide +kernel)
set_option maxRecDepth 20000 in
theorem gX6_anew_X6_isPattern : GoodIn wsX6_anew (wsV RX6 96 RX6 yX6_isPattern wsX6_isPattern) := goodIn_app (goodIn_of _ (by decide +kernel)) ggX6_anew_X6_isPattern
set_option maxRecDepth 20000 in
theorem ggX6_anew_X6_oftenAnew : GoodIn wsX6_anew wsX6_oftenAnew := goodIn_r _ [20, 21, 36, 37, 38, 39, 40, 41, 42, 43, 44, 45, 46, 47, 48, 49, 50, 51, 52, 53, 54, 55, 56, 57, 58, 59, 60, 61] (by decide +kernel) (by decide +kernel)
set_option maxRecDepth 20000 in
theorem gX6_anew_X6_oftenAnew : GoodIn wsX6_anew (wsV RX6 110 RX6 yX6_oftenAnew wsX6_oftenAnew) := goodIn_app (goodIn_of _ (by decide +kernel)) ggX6_anew_X6_oftenAnew
set_option maxRecDepth 20000 in
theorem ggX6_anew_X6_refused : GoodIn wsX6_anew wsX6_refused := goodIn_r _ [25, 26, 36, 37, 38, 39, 40, 41, 42, 43, 44, 45, 46, 47, 48, 49, 50, 51, 52, 53, 54, 55, 56, 57, 58, 59, 60, 61] (by decide +kernel) (by decide +kernel)
set_option maxRecDepth 20000 in
theorem gX6_anew_X6_refused : GoodIn wsX6_anew (wsV RX6 89 RX6 yX6_refused wsX6_refused) := goodIn_app (goodIn_of _ (by decide +kernel)) ggX6_anew_X6_refused
set_option maxRecDepth 20000 in
theorem ggX6_anew_X6_added : GoodIn wsX6_anew wsX6_added := goodIn_r _ [30, 4, 2, 3, 5, 31, 36, 37, 38, 39, 40, 41, 42, 43, 44, 45, 46, 47, 48, 49, 50, 51, 52, 53, 54, 55, 56, 57, 58, 59, 60, 61] (by decide +kernel) (by decide +kernel)
set_option maxRecDepth 20000 in
theorem gX6_anew_X6_added : GoodIn wsX6_anew (wsV RX6 92 RX6 yX6_added wsX6_added) := goodIn_app (goodIn_of _ (by decide +kernel)) ggX6_anew_X6_added
set_option maxRecDepth 20000 in
theorem ggX6_anew_X6_put : GoodIn wsX6_anew wsX6_put := goodIn_r _ [35, 1, 6, 7, 8, 21, 36, 37, 38, 39, 40, 41, 42, 43, 44, 45, 46, 47, 48, 49, 50, 51, 52, 53, 54, 55, 56, 57, 58, 59, 60, 61] (by decide +kernel) (by decide +kernel)
set_option maxRecDepth 20000 in
theorem gX6_anew_X6_put : GoodIn wsX6_anew (wsV RX6 106 RX6 yX6_put wsX6_put) := goodIn_app (goodIn_of _ (by decide +kernel)) ggX6_anew_X6_put
theorem dX6_anew_0 : decode cX6_anew 0 = .ok (.iload_n 2, 1) := by decide +kernel
theorem dX6_anew_1 : decode cX6_anew 1 = .ok (.iconst 5, 1) := by decide +kernel
theorem dX6_anew_2 : decode cX6_anew 2 = .ok (.bipush 20, 2) := by decide +kernel
theorem dX6_anew_4 : decode cX6_anew 4 = .ok (.invokestatic 72, 3) := by decide +kernel
theorem dX6_anew_7 : decode cX6_anew 7 = .ok (.istore_n 3, 1) := by decide +kernel
theorem dX6_anew_8 : decode cX6_anew 8 = .ok (.iconst 0, 1) := by decide +kernel
theorem dX6_anew_9 : decode cX6_anew 9 = .ok (.istore 4, 2) := by decide +kernel
theorem dX6_anew_11 : decode cX6_anew 11 = .ok (.iconst 0, 1) := by decide +kernel
theorem dX6_anew_12 : decode cX6_anew 12 = .ok (.istore 5, 2) := by decide +kernel
theorem dX6_anew_14 : decode cX6_anew 14 = .ok (.aload_n 0, 1) := by decide +kernel
theorem dX6_anew_15 : decode cX6_anew 15 = .ok (.iload_n 1, 1) := by decide +kernel
theorem dX6_anew_16 : decode cX6_anew 16 = .ok (.invokevirtual 96, 3) := by decide +kernel
theorem dX6_anew_19 : decode cX6_anew 19 = .ok (.ifCond .eq 41, 3) := by decide +kernel
theorem dX6_anew_22 : decode cX6_anew 22 = .ok (.iload_n 3, 1) := by decide +kernel
theorem dX6_anew_23 : decode cX6_anew 23 = .ok (.ifCond .eq 37, 3) := by decide +kernel
theorem dX6_anew_26 : decode cX6_anew 26 = .ok (.iload 5, 2) := by decide +kernel
theorem dX6_anew_28 : decode cX6_anew 28 = .ok (.aload_n 0, 1) := by decide +kernel
theorem dX6_anew_29 : decode cX6_anew 29 = .ok (.getfield 19, 3) := by decide +kernel
theorem dX6_anew_32 : decode cX6_anew 32 = .ok (.iload_n 1, 1) := by decide +kernel
theorem dX6_anew_33 : decode cX6_anew 33 = .ok (.iaload, 1) := by decide +kernel
theorem dX6_anew_34 : decode cX6_anew 34 = .ok (.if_icmp .ge 26, 3) := by decide +kernel
theorem dX6_anew_37 : decode cX6_anew 37 = .ok (.iload 4, 2) := by decide +kernel
theorem dX6_anew_39 : decode cX6_anew 39 = .ok (.aload_n 0, 1) := by decide +kernel
theorem dX6_anew_40 : decode cX6_anew 40 = .ok (.bipush 6, 2) := by decide +kernel
theorem dX6_anew_42 : decode cX6_anew 42 = .ok (.iload_n 1, 1) := by decide +kernel
theorem dX6_anew_43 : decode cX6_anew 43 = .ok (.imul, 1) := by decide +kernel
theorem dX6_anew_44 : decode cX6_anew 44 = .ok (.iload 5, 2) := by decide +kernel
theorem dX6_anew_46 : decode cX6_anew 46 = .ok (.iadd, 1) := by decide +kernel
theorem dX6_anew_47 : decode cX6_anew 47 = .ok (.iload_n 2, 1) := by decide +kernel
theorem dX6_anew_48 : decode cX6_anew 48 = .ok (.invokevirtual 110, 3) := by decide +kernel
theorem dX6_anew_51 : decode cX6_anew 51 = .ok (.iadd, 1) := by decide +kernel
theorem dX6_anew_52 : decode cX6_anew 52 = .ok (.istore 4, 2) := by decide +kernel
theorem dX6_anew_54 : decode cX6_anew 54 = .ok (.iinc 5 1, 3) := by decide +kernel
theorem dX6_anew_57 : decode cX6_anew 57 = .ok (.goto (-43), 3) := by decide +kernel
theorem dX6_anew_60 : decode cX6_anew 60 = .ok (.iload 4, 2) := by decide +kernel
theorem dX6_anew_62 : decode cX6_anew 62 = .ok (.ifCond .le 23, 3) := by decide +kernel
theorem dX6_anew_65 : decode cX6_anew 65 = .ok (.iload 4, 2) := by decide +kernel
theorem dX6_anew_67 : decode cX6_anew 67 = .ok (.bipush 40, 2) := by decide +kernel
theorem dX6_anew_69 : decode cX6_anew 69 = .ok (.if_icmp .gt 16, 3) := by decide +kernel
theorem dX6_anew_72 : decode cX6_anew 72 = .ok (.aload_n 0, 1) := by decide +kernel
theorem dX6_anew_73 : decode cX6_anew 73 = .ok (.getfield 76, 3) := by decide +kernel
theorem dX6_anew_76 : decode cX6_anew 76 = .ok (.bipush 16, 2) := by decide +kernel
theorem dX6_anew_78 : decode cX6_anew 78 = .ok (.if_icmp .ge 7, 3) := by decide +kernel
theorem dX6_anew_81 : decode cX6_anew 81 = .ok (.iconst 1, 1) := by decide +kernel
theorem dX6_anew_82 : decode cX6_anew 82 = .ok (.goto 4, 3) := by decide +kernel
theorem dX6_anew_85 : decode cX6_anew 85 = .ok (.iconst 0, 1) := by decide +kernel
theorem dX6_anew_86 : decode cX6_anew 86 = .ok (.istore 5, 2) := by decide +kernel
theorem dX6_anew_88 : decode cX6_anew 88 = .ok (.aload_n 0, 1) := by decide +kernel
theorem dX6_anew_89 : decode cX6_anew 89 = .ok (.aload_n 0, 1) := by decide +kernel
theorem dX6_anew_90 : decode cX6_anew 90 = .ok (.iload_n 1, 1) := by decide +kernel
theorem dX6_anew_91 : decode cX6_anew 91 = .ok (.invokevirtual 96, 3) := by decide +kernel
theorem dX6_anew_94 : decode cX6_anew 94 = .ok (.ifCond .ne 7, 3) := by decide +kernel
theorem dX6_anew_97 : decode cX6_anew 97 = .ok (.iconst 1, 1) := by decide +kernel
theorem dX6_anew_98 : decode cX6_anew 98 = .ok (.goto 21, 3) := by decide +kernel
theorem dX6_anew_101 : decode cX6_anew 101 = .ok (.iload_n 3, 1) := by decide +kernel
theorem dX6_anew_102 : decode cX6_anew 102 = .ok (.ifCond .ne 7, 3) := by decide +kernel
theorem dX6_anew_105 : decode cX6_anew 105 = .ok (.iconst 2, 1) := by decide +kernel
theorem dX6_anew_106 : decode cX6_anew 106 = .ok (.goto 13, 3) := by decide +kernel
theorem dX6_anew_109 : decode cX6_anew 109 = .ok (.iload 5, 2) := by decide +kernel
theorem dX6_anew_111 : decode cX6_anew 111 = .ok (.ifCond .eq 7, 3) := by decide +kernel
theorem dX6_anew_114 : decode cX6_anew 114 = .ok (.iconst 0, 1) := by decide +kernel
theorem dX6_anew_115 : decode cX6_anew 115 = .ok (.goto 4, 3) := by decide +kernel
theorem dX6_anew_118 : decode cX6_anew 118 = .ok (.iconst 3, 1) := by decide +kernel
theorem dX6_anew_119 : decode cX6_anew 119 = .ok (.invokevirtual 89, 3) := by decide +kernel
theorem dX6_anew_122 : decode cX6_anew 122 = .ok (.ifCond .eq 5, 3) := by decide +kernel
theorem dX6_anew_125 : decode cX6_anew 125 = .ok (.iconst 0, 1) := by decide +kernel
theorem dX6_anew_126 : decode cX6_anew 126 = .ok (.ireturn, 1) := by decide +kernel
theorem dX6_anew_127 : decode cX6_anew 127 = .ok (.aload_n 0, 1) := by decide +kernel
theorem dX6_anew_128 : decode cX6_anew 128 = .ok (.getfield 13, 3) := by decide +kernel
theorem dX6_anew_131 : decode cX6_anew 131 = .ok (.iload_n 1, 1) := by decide +kernel
theorem dX6_anew_132 : decode cX6_anew 132 = .ok (.iaload, 1) := by decide +kernel
theorem dX6_anew_133 : decode cX6_anew 133 = .ok (.iload_n 2, 1) := by decide +kernel
theorem dX6_anew_134 : decode cX6_anew 134 = .ok (.imul, 1) := by decide +kernel
theorem dX6_anew_135 : decode cX6_anew 135 = .ok (.bipush 10, 2) := by decide +kernel
theorem dX6_anew_137 : decode cX6_anew 137 = .ok (.idiv, 1) := by decide +kernel
theorem dX6_anew_138 : decode cX6_anew 138 = .ok (.istore 6, 2) := by decide +kernel
theorem dX6_anew_140 : decode cX6_anew 140 = .ok (.aload_n 0, 1) := by decide +kernel
theorem dX6_anew_141 : decode cX6_anew 141 = .ok (.aload_n 0, 1) := by decide +kernel
theorem dX6_anew_142 : decode cX6_anew 142 = .ok (.getfield 7, 3) := by decide +kernel
theorem dX6_anew_145 : decode cX6_anew 145 = .ok (.iload_n 1, 1) := by decide +kernel
theorem dX6_anew_146 : decode cX6_anew 146 = .ok (.iaload, 1) := by decide +kernel
theorem dX6_anew_147 : decode cX6_anew 147 = .ok (.iload 6, 2) := by decide +kernel
theorem dX6_anew_149 : decode cX6_anew 149 = .ok (.iconst 1, 1) := by decide +kernel
theorem dX6_anew_150 : decode cX6_anew 150 = .ok (.if_icmp .ge 7, 3) := by decide +kernel
theorem dX6_anew_153 : decode cX6_anew 153 = .ok (.iconst 1, 1) := by decide +kernel
theorem dX6_anew_154 : decode cX6_anew 154 = .ok (.goto 17, 3) := by decide +kernel
theorem dX6_anew_157 : decode cX6_anew 157 = .ok (.iload 6, 2) := by decide +kernel
theorem dX6_anew_159 : decode cX6_anew 159 = .ok (.bipush 20, 2) := by decide +kernel
theorem dX6_anew_161 : decode cX6_anew 161 = .ok (.if_icmp .le 8, 3) := by decide +kernel
theorem dX6_anew_164 : decode cX6_anew 164 = .ok (.bipush 20, 2) := by decide +kernel
theorem dX6_anew_166 : decode cX6_anew 166 = .ok (.goto 5, 3) := by decide +kernel
theorem dX6_anew_169 : decode cX6_anew 169 = .ok (.iload 6, 2) := by decide +kernel
theorem dX6_anew_171 : decode cX6_anew 171 = .ok (.aload_n 0, 1) := by decide +kernel
theorem dX6_anew_172 : decode cX6_anew 172 = .ok (.getfield 16, 3) := by decide +kernel
theorem dX6_anew_175 : decode cX6_anew 175 = .ok (.iload_n 1, 1) := by decide +kernel
theorem dX6_anew_176 : decode cX6_anew 176 = .ok (.iaload, 1) := by decide +kernel
theorem dX6_anew_177 : decode cX6_anew 177 = .ok (.invokevirtual 92, 3) := by decide +kernel
theorem dX6_anew_180 : decode cX6_anew 180 = .ok (.istore 7, 2) := by decide +kernel
theorem dX6_anew_182 : decode cX6_anew 182 = .ok (.bipush 6, 2) := by decide +kernel
theorem dX6_anew_184 : decode cX6_anew 184 = .ok (.iload_n 1, 1) := by decide +kernel
theorem dX6_anew_185 : decode cX6_anew 185 = .ok (.imul, 1) := by decide +kernel
theorem dX6_anew_186 : decode cX6_anew 186 = .ok (.istore 8, 2) := by decide +kernel
theorem dX6_anew_188 : decode cX6_anew 188 = .ok (.iload 8, 2) := by decide +kernel
theorem dX6_anew_190 : decode cX6_anew 190 = .ok (.bipush 6, 2) := by decide +kernel
theorem dX6_anew_192 : decode cX6_anew 192 = .ok (.iload_n 1, 1) := by decide +kernel
theorem dX6_anew_193 : decode cX6_anew 193 = .ok (.imul, 1) := by decide +kernel
theorem dX6_anew_194 : decode cX6_anew 194 = .ok (.aload_n 0, 1) := by decide +kernel
theorem dX6_anew_195 : decode cX6_anew 195 = .ok (.getfield 19, 3) := by decide +kernel
theorem dX6_anew_198 : decode cX6_anew 198 = .ok (.iload_n 1, 1) := by decide +kernel
theorem dX6_anew_199 : decode cX6_anew 199 = .ok (.iaload, 1) := by decide +kernel
theorem dX6_anew_200 : decode cX6_anew 200 = .ok (.iadd, 1) := by decide +kernel
theorem dX6_anew_201 : decode cX6_anew 201 = .ok (.if_icmp .ge 43, 3) := by decide +kernel
theorem dX6_anew_204 : decode cX6_anew 204 = .ok (.aload_n 0, 1) := by decide +kernel
theorem dX6_anew_205 : decode cX6_anew 205 = .ok (.iload 7, 2) := by decide +kernel
theorem dX6_anew_207 : decode cX6_anew 207 = .ok (.aload_n 0, 1) := by decide +kernel
theorem dX6_anew_208 : decode cX6_anew 208 = .ok (.getfield 22, 3) := by decide +kernel
theorem dX6_anew_211 : decode cX6_anew 211 = .ok (.iload 8, 2) := by decide +kernel
theorem dX6_anew_213 : decode cX6_anew 213 = .ok (.iaload, 1) := by decide +kernel
theorem dX6_anew_214 : decode cX6_anew 214 = .ok (.aload_n 0, 1) := by decide +kernel
theorem dX6_anew_215 : decode cX6_anew 215 = .ok (.getfield 25, 3) := by decide +kernel
theorem dX6_anew_218 : decode cX6_anew 218 = .ok (.iload 8, 2) := by decide +kernel
theorem dX6_anew_220 : decode cX6_anew 220 = .ok (.iaload, 1) := by decide +kernel
theorem dX6_anew_221 : decode cX6_anew 221 = .ok (.aload_n 0, 1) := by decide +kernel
theorem dX6_anew_222 : decode cX6_anew 222 = .ok (.getfield 28, 3) := by decide +kernel
theorem dX6_anew_225 : decode cX6_anew 225 = .ok (.iload 8, 2) := by decide +kernel
theorem dX6_anew_227 : decode cX6_anew 227 = .ok (.iaload, 1) := by decide +kernel
theorem dX6_anew_228 : decode cX6_anew 228 = .ok (.aload_n 0, 1) := by decide +kernel
theorem dX6_anew_229 : decode cX6_anew 229 = .ok (.iload 8, 2) := by decide +kernel
theorem dX6_anew_231 : decode cX6_anew 231 = .ok (.iload_n 2, 1) := by decide +kernel
theorem dX6_anew_232 : decode cX6_anew 232 = .ok (.invokevirtual 110, 3) := by decide +kernel
theorem dX6_anew_235 : decode cX6_anew 235 = .ok (.invokevirtual 106, 3) := by decide +kernel
theorem dX6_anew_238 : decode cX6_anew 238 = .ok (.iinc 8 1, 3) := by decide +kernel
theorem dX6_anew_241 : decode cX6_anew 241 = .ok (.goto (-53), 3) := by decide +kernel
theorem dX6_anew_244 : decode cX6_anew 244 = .ok (.iload 7, 2) := by decide +kernel
theorem dX6_anew_246 : decode cX6_anew 246 = .ok (.ireturn, 1) := by decide +kernel
theorem dX6_goTo_0 : decode cX6_goTo 0 = .ok (.aload_n 0, 1) := by decide +kernel
theorem dX6_goTo_1 : decode cX6_goTo 1 = .ok (.bipush 6, 2) := by decide +kernel
theorem dX6_goTo_3 : decode cX6_goTo 3 = .ok (.iload_n 1, 1) := by decide +kernel
theorem dX6_goTo_4 : decode cX6_goTo 4 = .ok (.imul, 1) := by decide +kernel
theorem dX6_goTo_5 : decode cX6_goTo 5 = .ok (.putfield 114, 3) := by decide +kernel
theorem dX6_goTo_8 : decode cX6_goTo 8 = .ok (.aload_n 0, 1) := by decide +kernel
theorem dX6_goTo_9 : decode cX6_goTo 9 = .ok (.aload_n 0, 1) := by decide +kernel
theorem dX6_goTo_10 : decode cX6_goTo 10 = .ok (.getfield 13, 3) := by decide +kernel
theorem dX6_goTo_13 : decode cX6_goTo 13 = .ok (.iload_n 1, 1) := by decide +kernel
theorem dX6_goTo_14 : decode cX6_goTo 14 = .ok (.iaload, 1) := by decide +kernel
theorem dX6_goTo_15 : decode cX6_goTo 15 = .ok (.putfield 117, 3) := by decide +kernel
theorem dX6_goTo_18 : decode cX6_goTo 18 = .ok (.aload_n 0, 1) := by decide +kernel
theorem dX6_goTo_19 : decode cX6_goTo 19 = .ok (.getfield 31, 3) := by decide +kernel
theorem dX6_goTo_22 : decode cX6_goTo 22 = .ok (.aload_n 0, 1) := by decide +kernel
theorem dX6_goTo_23 : decode cX6_goTo 23 = .ok (.getfield 114, 3) := by decide +kernel
theorem dX6_goTo_26 : decode cX6_goTo 26 = .ok (.iaload, 1) := by decide +kernel
theorem dX6_goTo_27 : decode cX6_goTo 27 = .ok (.istore_n 3, 1) := by decide +kernel
theorem dX6_goTo_28 : decode cX6_goTo 28 = .ok (.iconst 0, 1) := by decide +kernel
theorem dX6_goTo_29 : decode cX6_goTo 29 = .ok (.istore 4, 2) := by decide +kernel
theorem dX6_goTo_31 : decode cX6_goTo 31 = .ok (.iload 4, 2) := by decide +kernel
theorem dX6_goTo_33 : decode cX6_goTo 33 = .ok (.iload_n 2, 1) := by decide +kernel
theorem dX6_goTo_34 : decode cX6_goTo 34 = .ok (.if_icmp .ge 92, 3) := by decide +kernel
theorem dX6_goTo_37 : decode cX6_goTo 37 = .ok (.aload_n 0, 1) := by decide +kernel
theorem dX6_goTo_38 : decode cX6_goTo 38 = .ok (.getfield 117, 3) := by decide +kernel
theorem dX6_goTo_41 : decode cX6_goTo 41 = .ok (.aload_n 0, 1) := by decide +kernel
theorem dX6_goTo_42 : decode cX6_goTo 42 = .ok (.getfield 28, 3) := by decide +kernel
theorem dX6_goTo_45 : decode cX6_goTo 45 = .ok (.aload_n 0, 1) := by decide +kernel
theorem dX6_goTo_46 : decode cX6_goTo 46 = .ok (.getfield 114, 3) := by decide +kernel
theorem dX6_goTo_49 : decode cX6_goTo 49 = .ok (.iaload, 1) := by decide +kernel
theorem dX6_goTo_50 : decode cX6_goTo 50 = .ok (.iadd, 1) := by decide +kernel
theorem dX6_goTo_51 : decode cX6_goTo 51 = .ok (.istore 5, 2) := by decide +kernel
theorem dX6_goTo_53 : decode cX6_goTo 53 = .ok (.aload_n 0, 1) := by decide +kernel
theorem dX6_goTo_54 : decode cX6_goTo 54 = .ok (.iload 5, 2) := by decide +kernel
theorem dX6_goTo_56 : decode cX6_goTo 56 = .ok (.iconst 1, 1) := by decide +kernel
theorem dX6_goTo_57 : decode cX6_goTo 57 = .ok (.if_icmp .ge 7, 3) := by decide +kernel
theorem dX6_goTo_60 : decode cX6_goTo 60 = .ok (.iconst 1, 1) := by decide +kernel
theorem dX6_goTo_61 : decode cX6_goTo 61 = .ok (.goto 17, 3) := by decide +kernel
theorem dX6_goTo_64 : decode cX6_goTo 64 = .ok (.iload 5, 2) := by decide +kernel
theorem dX6_goTo_66 : decode cX6_goTo 66 = .ok (.bipush 40, 2) := by decide +kernel
theorem dX6_goTo_68 : decode cX6_goTo 68 = .ok (.if_icmp .le 8, 3) := by decide +kernel
theorem dX6_goTo_71 : decode cX6_goTo 71 = .ok (.bipush 40, 2) := by decide +kernel
theorem dX6_goTo_73 : decode cX6_goTo 73 = .ok (.goto 5, 3) := by decide +kernel
theorem dX6_goTo_76 : decode cX6_goTo 76 = .ok (.iload 5, 2) := by decide +kernel
theorem dX6_goTo_78 : decode cX6_goTo 78 = .ok (.putfield 117, 3) := by decide +kernel
theorem dX6_goTo_81 : decode cX6_goTo 81 = .ok (.iinc 3 (-1), 3) := by decide +kernel
theorem dX6_goTo_84 : decode cX6_goTo 84 = .ok (.aload_n 0, 1) := by decide +kernel
theorem dX6_goTo_85 : decode cX6_goTo 85 = .ok (.dup, 1) := by decide +kernel
theorem dX6_goTo_86 : decode cX6_goTo 86 = .ok (.getfield 114, 3) := by decide +kernel
theorem dX6_goTo_89 : decode cX6_goTo 89 = .ok (.iload_n 3, 1) := by decide +kernel
theorem dX6_goTo_90 : decode cX6_goTo 90 = .ok (.ifCond .ne 7, 3) := by decide +kernel
theorem dX6_goTo_93 : decode cX6_goTo 93 = .ok (.iconst 1, 1) := by decide +kernel
theorem dX6_goTo_94 : decode cX6_goTo 94 = .ok (.goto 4, 3) := by decide +kernel
theorem dX6_goTo_97 : decode cX6_goTo 97 = .ok (.iconst 0, 1) := by decide +kernel
theorem dX6_goTo_98 : decode cX6_goTo 98 = .ok (.iadd, 1) := by decide +kernel
theorem dX6_goTo_99 : decode cX6_goTo 99 = .ok (.putfield 114, 3) := by decide +kernel
theorem dX6_goTo_102 : decode cX6_goTo 102 = .ok (.iload_n 3, 1) := by decide +kernel
theorem dX6_goTo_103 : decode cX6_goTo 103 = .ok (.ifCond .ne 15, 3) := by decide +kernel
theorem dX6_goTo_106 : decode cX6_goTo 106 = .ok (.aload_n 0, 1) := by decide +kernel
theorem dX6_goTo_107 : decode cX6_goTo 107 = .ok (.getfield 31, 3) := by decide +kernel
theorem dX6_goTo_110 : decode cX6_goTo 110 = .ok (.aload_n 0, 1) := by decide +kernel
theorem dX6_goTo_111 : decode cX6_goTo 111 = .ok (.getfield 114, 3) := by decide +kernel
theorem dX6_goTo_114 : decode cX6_goTo 114 = .ok (.iaload, 1) := by decide +kernel
theorem dX6_goTo_115 : decode cX6_goTo 115 = .ok (.goto 4, 3) := by decide +kernel
theorem dX6_goTo_118 : decode cX6_goTo 118 = .ok (.iload_n 3, 1) := by decide +kernel
theorem dX6_goTo_119 : decode cX6_goTo 119 = .ok (.istore_n 3, 1) := by decide +kernel
theorem dX6_goTo_120 : decode cX6_goTo 120 = .ok (.iinc 4 1, 3) := by decide +kernel
theorem dX6_goTo_123 : decode cX6_goTo 123 = .ok (.goto (-92), 3) := by decide +kernel
theorem dX6_goTo_126 : decode cX6_goTo 126 = .ok (.return_, 1) := by decide +kernel
theorem dX6_stitchAt_0 : decode cX6_stitchAt 0 = .ok (.iload_n 1, 1) := by decide +kernel
theorem dX6_stitchAt_1 : decode cX6_stitchAt 1 = .ok (.aload_n 0, 1) := by decide +kernel
theorem dX6_stitchAt_2 : decode cX6_stitchAt 2 = .ok (.getfield 117, 3) := by decide +kernel
theorem dX6_stitchAt_5 : decode cX6_stitchAt 5 = .ok (.if_icmp .lt 5, 3) := by decide +kernel
theorem dX6_stitchAt_8 : decode cX6_stitchAt 8 = .ok (.iconst 0, 1) := by decide +kernel
theorem dX6_stitchAt_9 : decode cX6_stitchAt 9 = .ok (.ireturn, 1) := by decide +kernel
theorem dX6_stitchAt_10 : decode cX6_stitchAt 10 = .ok (.iload_n 1, 1) := by decide +kernel
theorem dX6_stitchAt_11 : decode cX6_stitchAt 11 = .ok (.aload_n 0, 1) := by decide +kernel
theorem dX6_stitchAt_12 : decode cX6_stitchAt 12 = .ok (.getfield 22, 3) := by decide +kernel
theorem dX6_stitchAt_15 : decode cX6_stitchAt 15 = .ok (.aload_n 0, 1) := by decide +kernel
theorem dX6_stitchAt_16 : decode cX6_stitchAt 16 = .ok (.getfield 114, 3) := by decide +kernel
theorem dX6_stitchAt_19 : decode cX6_stitchAt 19 = .ok (.iaload, 1) := by decide +kernel
theorem dX6_stitchAt_20 : decode cX6_stitchAt 20 = .ok (.aload_n 0, 1) := by decide +kernel
theorem dX6_stitchAt_21 : decode cX6_stitchAt 21 = .ok (.getfield 25, 3) := by decide +kernel
theorem dX6_stitchAt_24 : decode cX6_stitchAt 24 = .ok (.aload_n 0, 1) := by decide +kernel
theorem dX6_stitchAt_25 : decode cX6_stitchAt 25 = .ok (.getfield 114, 3) := by decide +kernel
theorem dX6_stitchAt_28 : decode cX6_stitchAt 28 = .ok (.iaload, 1) := by decide +kernel
theorem dX6_stitchAt_29 : decode cX6_stitchAt 29 = .ok (.iadd, 1) := by decide +kernel
theorem dX6_stitchAt_30 : decode cX6_stitchAt 30 = .ok (.irem, 1) := by decide +kernel
theorem dX6_stitchAt_31 : decode cX6_stitchAt 31 = .ok (.aload_n 0, 1) := by decide +kernel
theorem dX6_stitchAt_32 : decode cX6_stitchAt 32 = .ok (.getfield 22, 3) := by decide +kernel
theorem dX6_stitchAt_35 : decode cX6_stitchAt 35 = .ok (.aload_n 0, 1) := by decide +kernel
theorem dX6_stitchAt_36 : decode cX6_stitchAt 36 = .ok (.getfield 114, 3) := by decide +kernel
theorem dX6_stitchAt_39 : decode cX6_stitchAt 39 = .ok (.iaload, 1) := by decide +kernel
theorem dX6_stitchAt_40 : decode cX6_stitchAt 40 = .ok (.if_icmp .ge 7, 3) := by decide +kernel
theorem dX6_stitchAt_43 : decode cX6_stitchAt 43 = .ok (.iconst 1, 1) := by decide +kernel
theorem dX6_stitchAt_44 : decode cX6_stitchAt 44 = .ok (.goto 4, 3) := by decide +kernel
theorem dX6_stitchAt_47 : decode cX6_stitchAt 47 = .ok (.iconst 2, 1) := by decide +kernel
theorem dX6_stitchAt_48 : decode cX6_stitchAt 48 = .ok (.ireturn, 1) := by decide +kernel
set_option maxRecDepth 20000 in
theorem ggX6_stitchOf_X6_goTo : GoodIn wsX6_stitchOf wsX6_goTo := goodIn_r _ [5, 6, 7, 8, 9, 10, 17, 18, 19, 20, 21, 22, 23, 24, 25, 26, 27, 28, 29, 30, 31, 32, 33, 34, 35, 36, 37, 38, 39, 40, 41, 42] (by decide +kernel) (by decide +kernel)
set_option maxRecDepth 20000 in
theorem gX6_stitchOf_X6_goTo : GoodIn wsX6_stitchOf (wsV RX6 120 RX6 yX6_goTo wsX6_goTo) := goodIn_app (goodIn_of _ (by decide +kernel)) ggX6_stitchOf_X6_goTo
set_option maxRecDepth 20000 in
theorem ggX6_stitchOf_X6_stitchAt : GoodIn wsX6_stitchOf wsX6_stitchAt := goodIn_r _ [14, 8, 15, 6, 16, 17, 18, 19, 20, 21, 22, 23, 24, 25, 26, 27, 28, 29, 30, 31, 32, 33, 34, 35, 36, 37, 38, 39, 40, 41, 42] (by decide +kernel) (by decide +kernel)
set_option maxRecDepth 20000 in
theorem gX6_stitchOf_X6_stitchAt : GoodIn wsX6_stitchOf (wsV RX6 124 RX6 yX6_stitchAt wsX6_stitchAt) := goodIn_app (goodIn_of _ (by decide +kernel)) ggX6_stitchOf_X6_stitchAt
theorem dX6_stitchOf_0 : decode cX6_stitchOf 0 = .ok (.aload_n 0, 1) := by decide +kernel
theorem dX6_stitchOf_1 : decode cX6_stitchOf 1 = .ok (.iload_n 1, 1) := by decide +kernel
theorem dX6_stitchOf_2 : decode cX6_stitchOf 2 = .ok (.iload_n 2, 1) := by decide +kernel
theorem dX6_stitchOf_3 : decode cX6_stitchOf 3 = .ok (.invokevirtual 120, 3) := by decide +kernel
theorem dX6_stitchOf_6 : decode cX6_stitchOf 6 = .ok (.aload_n 0, 1) := by decide +kernel
theorem dX6_stitchOf_7 : decode cX6_stitchOf 7 = .ok (.iload_n 3, 1) := by decide +kernel
theorem dX6_stitchOf_8 : decode cX6_stitchOf 8 = .ok (.invokevirtual 124, 3) := by decide +kernel
theorem dX6_stitchOf_11 : decode cX6_stitchOf 11 = .ok (.ireturn, 1) := by decide +kernel
set_option maxRecDepth 20000 in
theorem ggX6_areAlike_X6_rowsOf : GoodIn wsX6_areAlike wsX6_rowsOf := goodIn_r _ [5, 6, 7, 26, 27, 28, 29, 30, 31, 32, 33, 34, 35, 36, 37, 38, 39, 40, 41, 42, 43, 44, 45, 46, 47, 48, 49, 50, 51] (by decide +kernel) (by decide +kernel)
set_option maxRecDepth 20000 in
theorem gX6_areAlike_X6_rowsOf : GoodIn wsX6_areAlike (wsV RX6 102 RX6 yX6_rowsOf wsX6_rowsOf) := goodIn_app (goodIn_of _ (by decide +kernel)) ggX6_areAlike_X6_rowsOf
set_option maxRecDepth 20000 in
theorem ggX6_areAlike_X6_stitchOf : GoodIn wsX6_areAlike wsX6_stitchOf := goodIn_r _ [11, 12, 13, 14, 4, 15, 16, 17, 18, 7, 19, 20, 21, 22, 23, 24, 25, 26, 27, 28, 29, 30, 31, 32, 33, 34, 35, 36, 37, 38, 39, 40, 41, 42, 43, 44, 45, 46, 47, 48, 49, 50, 51] (by decide +kernel) (by decide +kernel)
set_option maxRecDepth 20000 in
theorem gX6_areAlike_X6_stitchOf : GoodIn wsX6_areAlike (wsV RX6 127 RX6 yX6_stitchOf wsX6_stitchOf) := goodIn_app (goodIn_of _ (by decide +kernel)) ggX6_areAlike_X6_stitchOf
theorem dX6_areAlike_0 : decode cX6_areAlike 0 = .ok (.aload_n 0, 1) := by decide +kernel
theorem dX6_areAlike_1 : decode cX6_areAlike 1 = .ok (.iload_n 1, 1) := by decide +kernel
theorem dX6_areAlike_2 : decode cX6_areAlike 2 = .ok (.invokevirtual 102, 3) := by decide +kernel
theorem dX6_areAlike_5 : decode cX6_areAlike 5 = .ok (.aload_n 0, 1) := by decide +kernel
theorem dX6_areAlike_6 : decode cX6_areAlike 6 = .ok (.iload_n 2, 1) := by decide +kernel
theorem dX6_areAlike_7 : decode cX6_areAlike 7 = .ok (.invokevirtual 102, 3) := by decide +kernel
theorem dX6_areAlike_10 : decode cX6_areAlike 10 = .ok (.if_icmp .ne 7, 3) := by decide +kernel
theorem dX6_areAlike_13 : decode cX6_areAlike 13 = .ok (.iconst 1, 1) := by decide +kernel
theorem dX6_areAlike_14 : decode cX6_areAlike 14 = .ok (.goto 4, 3) := by decide +kernel
theorem dX6_areAlike_17 : decode cX6_areAlike 17 = .ok (.iconst 0, 1) := by decide +kernel
theorem dX6_areAlike_18 : decode cX6_areAlike 18 = .ok (.istore_n 3, 1) := by decide +kernel
theorem dX6_areAlike_19 : decode cX6_areAlike 19 = .ok (.iconst 0, 1) := by decide +kernel
theorem dX6_areAlike_20 : decode cX6_areAlike 20 = .ok (.istore 4, 2) := by decide +kernel
theorem dX6_areAlike_22 : decode cX6_areAlike 22 = .ok (.iload_n 3, 1) := by decide +kernel
theorem dX6_areAlike_23 : decode cX6_areAlike 23 = .ok (.ifCond .eq 66, 3) := by decide +kernel
theorem dX6_areAlike_26 : decode cX6_areAlike 26 = .ok (.iload 4, 2) := by decide +kernel
theorem dX6_areAlike_28 : decode cX6_areAlike 28 = .ok (.aload_n 0, 1) := by decide +kernel
theorem dX6_areAlike_29 : decode cX6_areAlike 29 = .ok (.iload_n 1, 1) := by decide +kernel
theorem dX6_areAlike_30 : decode cX6_areAlike 30 = .ok (.invokevirtual 102, 3) := by decide +kernel
theorem dX6_areAlike_33 : decode cX6_areAlike 33 = .ok (.if_icmp .ge 56, 3) := by decide +kernel
theorem dX6_areAlike_36 : decode cX6_areAlike 36 = .ok (.iconst 0, 1) := by decide +kernel
theorem dX6_areAlike_37 : decode cX6_areAlike 37 = .ok (.istore 5, 2) := by decide +kernel
theorem dX6_areAlike_39 : decode cX6_areAlike 39 = .ok (.iload_n 3, 1) := by decide +kernel
theorem dX6_areAlike_40 : decode cX6_areAlike 40 = .ok (.ifCond .eq 43, 3) := by decide +kernel
theorem dX6_areAlike_43 : decode cX6_areAlike 43 = .ok (.iload 5, 2) := by decide +kernel
theorem dX6_areAlike_45 : decode cX6_areAlike 45 = .ok (.bipush 40, 2) := by decide +kernel
theorem dX6_areAlike_47 : decode cX6_areAlike 47 = .ok (.if_icmp .ge 36, 3) := by decide +kernel
theorem dX6_areAlike_50 : decode cX6_areAlike 50 = .ok (.aload_n 0, 1) := by decide +kernel
theorem dX6_areAlike_51 : decode cX6_areAlike 51 = .ok (.iload_n 1, 1) := by decide +kernel
theorem dX6_areAlike_52 : decode cX6_areAlike 52 = .ok (.iload 4, 2) := by decide +kernel
theorem dX6_areAlike_54 : decode cX6_areAlike 54 = .ok (.iload 5, 2) := by decide +kernel
theorem dX6_areAlike_56 : decode cX6_areAlike 56 = .ok (.invokevirtual 127, 3) := by decide +kernel
theorem dX6_areAlike_59 : decode cX6_areAlike 59 = .ok (.aload_n 0, 1) := by decide +kernel
theorem dX6_areAlike_60 : decode cX6_areAlike 60 = .ok (.iload_n 2, 1) := by decide +kernel
theorem dX6_areAlike_61 : decode cX6_areAlike 61 = .ok (.iload 4, 2) := by decide +kernel
theorem dX6_areAlike_63 : decode cX6_areAlike 63 = .ok (.iload 5, 2) := by decide +kernel
theorem dX6_areAlike_65 : decode cX6_areAlike 65 = .ok (.invokevirtual 127, 3) := by decide +kernel
theorem dX6_areAlike_68 : decode cX6_areAlike 68 = .ok (.if_icmp .ne 7, 3) := by decide +kernel
theorem dX6_areAlike_71 : decode cX6_areAlike 71 = .ok (.iconst 1, 1) := by decide +kernel
theorem dX6_areAlike_72 : decode cX6_areAlike 72 = .ok (.goto 4, 3) := by decide +kernel
theorem dX6_areAlike_75 : decode cX6_areAlike 75 = .ok (.iconst 0, 1) := by decide +kernel
theorem dX6_areAlike_76 : decode cX6_areAlike 76 = .ok (.istore_n 3, 1) := by decide +kernel
theorem dX6_areAlike_77 : decode cX6_areAlike 77 = .ok (.iinc 5 1, 3) := by decide +kernel
theorem dX6_areAlike_80 : decode cX6_areAlike 80 = .ok (.goto (-41), 3) := by decide +kernel
theorem dX6_areAlike_83 : decode cX6_areAlike 83 = .ok (.iinc 4 1, 3) := by decide +kernel
theorem dX6_areAlike_86 : decode cX6_areAlike 86 = .ok (.goto (-64), 3) := by decide +kernel
theorem dX6_areAlike_89 : decode cX6_areAlike 89 = .ok (.iload_n 3, 1) := by decide +kernel
theorem dX6_areAlike_90 : decode cX6_areAlike 90 = .ok (.ireturn, 1) := by decide +kernel
set_option maxRecDepth 20000 in
theorem ggX6_originalOf_X6_areAlike : GoodIn wsX6_originalOf wsX6_areAlike := goodIn_r _ [7, 8, 9, 10, 6, 11, 12, 13, 14, 15, 16, 17, 18, 19, 20, 21, 22, 23, 24, 25, 26, 27, 28, 29, 30, 31, 32, 33, 34, 35, 36, 37, 38, 39, 40, 41, 42, 43, 44, 45, 46, 47, 48, 49, 50, 51, 52, 53, 54, 55, 56, 57] (by decide +kernel) (by decide +kernel)
set_option maxRecDepth 20000 in
theorem gX6_originalOf_X6_areAlike : GoodIn wsX6_originalOf (wsV RX6 130 RX6 yX6_areAlike wsX6_areAlike) := goodIn_app (goodIn_of _ (by decide +kernel)) ggX6_originalOf_X6_areAlike
theorem dX6_originalOf_0 : decode cX6_originalOf 0 = .ok (.iload_n 1, 1) := by decide +kernel
theorem dX6_originalOf_1 : decode cX6_originalOf 1 = .ok (.istore_n 2, 1) := by decide +kernel
theorem dX6_originalOf_2 : decode cX6_originalOf 2 = .ok (.iconst 0, 1) := by decide +kernel
theorem dX6_originalOf_3 : decode cX6_originalOf 3 = .ok (.istore_n 3, 1) := by decide +kernel
theorem dX6_originalOf_4 : decode cX6_originalOf 4 = .ok (.iload_n 3, 1) := by decide +kernel
theorem dX6_originalOf_5 : decode cX6_originalOf 5 = .ok (.aload_n 0, 1) := by decide +kernel
theorem dX6_originalOf_6 : decode cX6_originalOf 6 = .ok (.getfield 76, 3) := by decide +kernel
theorem dX6_originalOf_9 : decode cX6_originalOf 9 = .ok (.if_icmp .ge 39, 3) := by decide +kernel
theorem dX6_originalOf_12 : decode cX6_originalOf 12 = .ok (.aload_n 0, 1) := by decide +kernel
theorem dX6_originalOf_13 : decode cX6_originalOf 13 = .ok (.getfield 34, 3) := by decide +kernel
theorem dX6_originalOf_16 : decode cX6_originalOf 16 = .ok (.iload_n 3, 1) := by decide +kernel
theorem dX6_originalOf_17 : decode cX6_originalOf 17 = .ok (.iaload, 1) := by decide +kernel
theorem dX6_originalOf_18 : decode cX6_originalOf 18 = .ok (.aload_n 0, 1) := by decide +kernel
theorem dX6_originalOf_19 : decode cX6_originalOf 19 = .ok (.getfield 34, 3) := by decide +kernel
theorem dX6_originalOf_22 : decode cX6_originalOf 22 = .ok (.iload_n 2, 1) := by decide +kernel
theorem dX6_originalOf_23 : decode cX6_originalOf 23 = .ok (.iaload, 1) := by decide +kernel
theorem dX6_originalOf_24 : decode cX6_originalOf 24 = .ok (.if_icmp .ge 16, 3) := by decide +kernel
theorem dX6_originalOf_27 : decode cX6_originalOf 27 = .ok (.aload_n 0, 1) := by decide +kernel
theorem dX6_originalOf_28 : decode cX6_originalOf 28 = .ok (.iload_n 3, 1) := by decide +kernel
theorem dX6_originalOf_29 : decode cX6_originalOf 29 = .ok (.iload_n 1, 1) := by decide +kernel
theorem dX6_originalOf_30 : decode cX6_originalOf 30 = .ok (.invokevirtual 130, 3) := by decide +kernel
theorem dX6_originalOf_33 : decode cX6_originalOf 33 = .ok (.ifCond .eq 7, 3) := by decide +kernel
theorem dX6_originalOf_36 : decode cX6_originalOf 36 = .ok (.iload_n 3, 1) := by decide +kernel
theorem dX6_originalOf_37 : decode cX6_originalOf 37 = .ok (.goto 4, 3) := by decide +kernel
theorem dX6_originalOf_40 : decode cX6_originalOf 40 = .ok (.iload_n 2, 1) := by decide +kernel
theorem dX6_originalOf_41 : decode cX6_originalOf 41 = .ok (.istore_n 2, 1) := by decide +kernel
theorem dX6_originalOf_42 : decode cX6_originalOf 42 = .ok (.iinc 3 1, 3) := by decide +kernel
theorem dX6_originalOf_45 : decode cX6_originalOf 45 = .ok (.goto (-41), 3) := by decide +kernel
theorem dX6_originalOf_48 : decode cX6_originalOf 48 = .ok (.iload_n 2, 1) := by decide +kernel
theorem dX6_originalOf_49 : decode cX6_originalOf 49 = .ok (.ireturn, 1) := by decide +kernel
set_option maxRecDepth 20000 in
theorem ggX6_publish_X6_isPattern : GoodIn wsX6_publish wsX6_isPattern := goodIn_r _ [8, 9, 10, 11, 7, 12, 53, 54, 55, 56, 57, 58, 59, 60, 61, 62, 63, 64, 65, 66, 67, 68, 69, 70, 71, 72, 73, 74, 75, 76, 77, 78] (by decide +kernel) (by decide +kernel)
set_option maxRecDepth 20000 in
theorem gX6_publish_X6_isPattern : GoodIn wsX6_publish (wsV RX6 96 RX6 yX6_isPattern wsX6_isPattern) := goodIn_app (goodIn_of _ (by decide +kernel)) ggX6_publish_X6_isPattern
set_option maxRecDepth 20000 in
theorem ggX6_publish_X6_isPublished : GoodIn wsX6_publish wsX6_isPublished := goodIn_r _ [16, 2, 53, 54, 55, 56, 57, 58, 59, 60, 61, 62, 63, 64, 65, 66, 67, 68, 69, 70, 71, 72, 73, 74, 75, 76, 77, 78] (by decide +kernel) (by decide +kernel)
set_option maxRecDepth 20000 in
theorem gX6_publish_X6_isPublished : GoodIn wsX6_publish (wsV RX6 99 RX6 yX6_isPublished wsX6_isPublished) := goodIn_app (goodIn_of _ (by decide +kernel)) ggX6_publish_X6_isPublished
set_option maxRecDepth 20000 in
theorem ggX6_publish_X6_refused : GoodIn wsX6_publish wsX6_refused := goodIn_r _ [20, 21, 53, 54, 55, 56, 57, 58, 59, 60, 61, 62, 63, 64, 65, 66, 67, 68, 69, 70, 71, 72, 73, 74, 75, 76, 77, 78] (by decide +kernel) (by decide +kernel)
set_option maxRecDepth 20000 in
theorem gX6_publish_X6_refused : GoodIn wsX6_publish (wsV RX6 89 RX6 yX6_refused wsX6_refused) := goodIn_app (goodIn_of _ (by decide +kernel)) ggX6_publish_X6_refused
set_option maxRecDepth 20000 in
theorem ggX6_publish_X6_originalOf : GoodIn wsX6_publish wsX6_originalOf := goodIn_r _ [25, 9, 2, 26, 27, 28, 7, 29, 30, 31, 32, 33, 1, 34, 35, 36, 37, 38, 39, 40, 41, 42, 43, 44, 45, 46, 47, 48, 49, 50, 51, 52, 53, 54, 55, 56, 57, 58, 59, 60, 61, 62, 63, 64, 65, 66, 67, 68, 69, 70, 71, 72, 73, 74, 75, 76, 77, 78] (by decide +kernel) (by decide +kernel)
set_option maxRecDepth 20000 in
theorem gX6_publish_X6_originalOf : GoodIn wsX6_publish (wsV RX6 137 RX6 yX6_originalOf wsX6_originalOf) := goodIn_app (goodIn_of _ (by decide +kernel)) ggX6_publish_X6_originalOf
theorem dX6_publish_0 : decode cX6_publish 0 = .ok (.aload_n 0, 1) := by decide +kernel
theorem dX6_publish_1 : decode cX6_publish 1 = .ok (.iload_n 1, 1) := by decide +kernel
theorem dX6_publish_2 : decode cX6_publish 2 = .ok (.invokevirtual 96, 3) := by decide +kernel
theorem dX6_publish_5 : decode cX6_publish 5 = .ok (.ifCond .eq 24, 3) := by decide +kernel
theorem dX6_publish_8 : decode cX6_publish 8 = .ok (.aload_n 0, 1) := by decide +kernel
theorem dX6_publish_9 : decode cX6_publish 9 = .ok (.iload_n 1, 1) := by decide +kernel
theorem dX6_publish_10 : decode cX6_publish 10 = .ok (.invokevirtual 99, 3) := by decide +kernel
theorem dX6_publish_13 : decode cX6_publish 13 = .ok (.ifCond .ne 16, 3) := by decide +kernel
theorem dX6_publish_16 : decode cX6_publish 16 = .ok (.aload_n 0, 1) := by decide +kernel
theorem dX6_publish_17 : decode cX6_publish 17 = .ok (.getfield 19, 3) := by decide +kernel
theorem dX6_publish_20 : decode cX6_publish 20 = .ok (.iload_n 1, 1) := by decide +kernel
theorem dX6_publish_21 : decode cX6_publish 21 = .ok (.iaload, 1) := by decide +kernel
theorem dX6_publish_22 : decode cX6_publish 22 = .ok (.ifCond .le 7, 3) := by decide +kernel
theorem dX6_publish_25 : decode cX6_publish 25 = .ok (.iconst 1, 1) := by decide +kernel
theorem dX6_publish_26 : decode cX6_publish 26 = .ok (.goto 4, 3) := by decide +kernel
theorem dX6_publish_29 : decode cX6_publish 29 = .ok (.iconst 0, 1) := by decide +kernel
theorem dX6_publish_30 : decode cX6_publish 30 = .ok (.istore_n 2, 1) := by decide +kernel
theorem dX6_publish_31 : decode cX6_publish 31 = .ok (.aload_n 0, 1) := by decide +kernel
theorem dX6_publish_32 : decode cX6_publish 32 = .ok (.aload_n 0, 1) := by decide +kernel
theorem dX6_publish_33 : decode cX6_publish 33 = .ok (.iload_n 1, 1) := by decide +kernel
theorem dX6_publish_34 : decode cX6_publish 34 = .ok (.invokevirtual 96, 3) := by decide +kernel
theorem dX6_publish_37 : decode cX6_publish 37 = .ok (.ifCond .ne 7, 3) := by decide +kernel
theorem dX6_publish_40 : decode cX6_publish 40 = .ok (.iconst 1, 1) := by decide +kernel
theorem dX6_publish_41 : decode cX6_publish 41 = .ok (.goto 12, 3) := by decide +kernel
theorem dX6_publish_44 : decode cX6_publish 44 = .ok (.iload_n 2, 1) := by decide +kernel
theorem dX6_publish_45 : decode cX6_publish 45 = .ok (.ifCond .eq 7, 3) := by decide +kernel
theorem dX6_publish_48 : decode cX6_publish 48 = .ok (.iconst 0, 1) := by decide +kernel
theorem dX6_publish_49 : decode cX6_publish 49 = .ok (.goto 4, 3) := by decide +kernel
theorem dX6_publish_52 : decode cX6_publish 52 = .ok (.iconst 2, 1) := by decide +kernel
theorem dX6_publish_53 : decode cX6_publish 53 = .ok (.invokevirtual 89, 3) := by decide +kernel
theorem dX6_publish_56 : decode cX6_publish 56 = .ok (.ifCond .eq 5, 3) := by decide +kernel
theorem dX6_publish_59 : decode cX6_publish 59 = .ok (.iconst 0, 1) := by decide +kernel
theorem dX6_publish_60 : decode cX6_publish 60 = .ok (.ireturn, 1) := by decide +kernel
theorem dX6_publish_61 : decode cX6_publish 61 = .ok (.aload_n 0, 1) := by decide +kernel
theorem dX6_publish_62 : decode cX6_publish 62 = .ok (.getfield 34, 3) := by decide +kernel
theorem dX6_publish_65 : decode cX6_publish 65 = .ok (.iload_n 1, 1) := by decide +kernel
theorem dX6_publish_66 : decode cX6_publish 66 = .ok (.aload_n 0, 1) := by decide +kernel
theorem dX6_publish_67 : decode cX6_publish 67 = .ok (.getfield 134, 3) := by decide +kernel
theorem dX6_publish_70 : decode cX6_publish 70 = .ok (.iastore, 1) := by decide +kernel
theorem dX6_publish_71 : decode cX6_publish 71 = .ok (.aload_n 0, 1) := by decide +kernel
theorem dX6_publish_72 : decode cX6_publish 72 = .ok (.dup, 1) := by decide +kernel
theorem dX6_publish_73 : decode cX6_publish 73 = .ok (.getfield 134, 3) := by decide +kernel
theorem dX6_publish_76 : decode cX6_publish 76 = .ok (.iconst 1, 1) := by decide +kernel
theorem dX6_publish_77 : decode cX6_publish 77 = .ok (.iadd, 1) := by decide +kernel
theorem dX6_publish_78 : decode cX6_publish 78 = .ok (.putfield 134, 3) := by decide +kernel
theorem dX6_publish_81 : decode cX6_publish 81 = .ok (.aload_n 0, 1) := by decide +kernel
theorem dX6_publish_82 : decode cX6_publish 82 = .ok (.iload_n 1, 1) := by decide +kernel
theorem dX6_publish_83 : decode cX6_publish 83 = .ok (.invokevirtual 137, 3) := by decide +kernel
theorem dX6_publish_86 : decode cX6_publish 86 = .ok (.ireturn, 1) := by decide +kernel
set_option maxRecDepth 20000 in
theorem ggX6_noPattern_X6_isPattern : GoodIn wsX6_noPattern wsX6_isPattern := goodIn_r _ [5, 6, 7, 8, 4, 9, 15, 16, 17, 18, 19, 20, 21, 22, 23, 24, 25, 26, 27, 28, 29, 30, 31, 32, 33, 34, 35, 36, 37, 38, 39, 40] (by decide +kernel) (by decide +kernel)
set_option maxRecDepth 20000 in
theorem gX6_noPattern_X6_isPattern : GoodIn wsX6_noPattern (wsV RX6 96 RX6 yX6_isPattern wsX6_isPattern) := goodIn_app (goodIn_of _ (by decide +kernel)) ggX6_noPattern_X6_isPattern
set_option maxRecDepth 20000 in
theorem ggX6_noPattern_X6_refused : GoodIn wsX6_noPattern wsX6_refused := goodIn_r _ [13, 14, 15, 16, 17, 18, 19, 20, 21, 22, 23, 24, 25, 26, 27, 28, 29, 30, 31, 32, 33, 34, 35, 36, 37, 38, 39, 40] (by decide +kernel) (by decide +kernel)
set_option maxRecDepth 20000 in
theorem gX6_noPattern_X6_refused : GoodIn wsX6_noPattern (wsV RX6 89 RX6 yX6_refused wsX6_refused) := goodIn_app (goodIn_of _ (by decide +kernel)) ggX6_noPattern_X6_refused
theorem dX6_noPattern_0 : decode cX6_noPattern 0 = .ok (.aload_n 0, 1) := by decide +kernel
theorem dX6_noPattern_1 : decode cX6_noPattern 1 = .ok (.aload_n 0, 1) := by decide +kernel
theorem dX6_noPattern_2 : decode cX6_noPattern 2 = .ok (.iload_n 1, 1) := by decide +kernel
theorem dX6_noPattern_3 : decode cX6_noPattern 3 = .ok (.invokevirtual 96, 3) := by decide +kernel
theorem dX6_noPattern_6 : decode cX6_noPattern 6 = .ok (.ifCond .eq 7, 3) := by decide +kernel
theorem dX6_noPattern_9 : decode cX6_noPattern 9 = .ok (.iconst 0, 1) := by decide +kernel
theorem dX6_noPattern_10 : decode cX6_noPattern 10 = .ok (.goto 4, 3) := by decide +kernel
theorem dX6_noPattern_13 : decode cX6_noPattern 13 = .ok (.iconst 1, 1) := by decide +kernel
theorem dX6_noPattern_14 : decode cX6_noPattern 14 = .ok (.invokevirtual 89, 3) := by decide +kernel
theorem dX6_noPattern_17 : decode cX6_noPattern 17 = .ok (.ireturn, 1) := by decide +kernel
set_option maxRecDepth 20000 in
theorem ggX6_original_X6_noPattern : GoodIn wsX6_original wsX6_noPattern := goodIn_r _ [5, 6, 7, 8, 4, 9, 10, 11, 12, 13, 14, 15, 16, 17, 18, 56, 57, 58, 59, 60, 61, 62, 63, 64, 65, 66, 67, 68, 69, 70, 71, 72, 73, 74, 75, 76, 77, 78, 79, 80, 81] (by decide +kernel) (by decide +kernel)
set_option maxRecDepth 20000 in
theorem gX6_original_X6_noPattern : GoodIn wsX6_original (wsV RX6 140 RX6 yX6_noPattern wsX6_noPattern) := goodIn_app (goodIn_of _ (by decide +kernel)) ggX6_original_X6_noPattern
set_option maxRecDepth 20000 in
theorem ggX6_original_X6_isPublished : GoodIn wsX6_original wsX6_isPublished := goodIn_r _ [22, 23, 56, 57, 58, 59, 60, 61, 62, 63, 64, 65, 66, 67, 68, 69, 70, 71, 72, 73, 74, 75, 76, 77, 78, 79, 80, 81] (by decide +kernel) (by decide +kernel)
set_option maxRecDepth 20000 in
theorem gX6_original_X6_isPublished : GoodIn wsX6_original (wsV RX6 99 RX6 yX6_isPublished wsX6_isPublished) := goodIn_app (goodIn_of _ (by decide +kernel)) ggX6_original_X6_isPublished
set_option maxRecDepth 20000 in
theorem ggX6_original_X6_originalOf : GoodIn wsX6_original wsX6_originalOf := goodIn_r _ [27, 10, 23, 28, 29, 30, 4, 31, 32, 33, 34, 35, 36, 37, 38, 39, 40, 41, 42, 43, 44, 45, 46, 47, 48, 49, 50, 51, 52, 53, 54, 55, 56, 57, 58, 59, 60, 61, 62, 63, 64, 65, 66, 67, 68, 69, 70, 71, 72, 73, 74, 75, 76, 77, 78, 79, 80, 81] (by decide +kernel) (by decide +kernel)
set_option maxRecDepth 20000 in
theorem gX6_original_X6_originalOf : GoodIn wsX6_original (wsV RX6 137 RX6 yX6_originalOf wsX6_originalOf) := goodIn_app (goodIn_of _ (by decide +kernel)) ggX6_original_X6_originalOf
theorem dX6_original_0 : decode cX6_original 0 = .ok (.aload_n 0, 1) := by decide +kernel
theorem dX6_original_1 : decode cX6_original 1 = .ok (.iload_n 1, 1) := by decide +kernel
theorem dX6_original_2 : decode cX6_original 2 = .ok (.invokevirtual 140, 3) := by decide +kernel
theorem dX6_original_5 : decode cX6_original 5 = .ok (.ifCond .eq 7, 3) := by decide +kernel
theorem dX6_original_8 : decode cX6_original 8 = .ok (.iconst 0, 1) := by decide +kernel
theorem dX6_original_9 : decode cX6_original 9 = .ok (.goto 20, 3) := by decide +kernel
theorem dX6_original_12 : decode cX6_original 12 = .ok (.aload_n 0, 1) := by decide +kernel
theorem dX6_original_13 : decode cX6_original 13 = .ok (.iload_n 1, 1) := by decide +kernel
theorem dX6_original_14 : decode cX6_original 14 = .ok (.invokevirtual 99, 3) := by decide +kernel
theorem dX6_original_17 : decode cX6_original 17 = .ok (.ifCond .eq 11, 3) := by decide +kernel
theorem dX6_original_20 : decode cX6_original 20 = .ok (.aload_n 0, 1) := by decide +kernel
theorem dX6_original_21 : decode cX6_original 21 = .ok (.iload_n 1, 1) := by decide +kernel
theorem dX6_original_22 : decode cX6_original 22 = .ok (.invokevirtual 137, 3) := by decide +kernel
theorem dX6_original_25 : decode cX6_original 25 = .ok (.goto 4, 3) := by decide +kernel
theorem dX6_original_28 : decode cX6_original 28 = .ok (.iconst (-1), 1) := by decide +kernel
theorem dX6_original_29 : decode cX6_original 29 = .ok (.ireturn, 1) := by decide +kernel
set_option maxRecDepth 20000 in
theorem ggX6_rows_X6_noPattern : GoodIn wsX6_rows wsX6_noPattern := goodIn_r _ [5, 6, 7, 8, 4, 9, 10, 11, 12, 13, 14, 15, 16, 17, 18, 25, 26, 27, 28, 29, 30, 31, 32, 33, 34, 35, 36, 37, 38, 39, 40, 41, 42, 43, 44, 45, 46, 47, 48, 49, 50] (by decide +kernel) (by decide +kernel)
set_option maxRecDepth 20000 in
theorem gX6_rows_X6_noPattern : GoodIn wsX6_rows (wsV RX6 140 RX6 yX6_noPattern wsX6_noPattern) := goodIn_app (goodIn_of _ (by decide +kernel)) ggX6_rows_X6_noPattern
set_option maxRecDepth 20000 in
theorem ggX6_rows_X6_rowsOf : GoodIn wsX6_rows wsX6_rowsOf := goodIn_r _ [22, 23, 24, 25, 26, 27, 28, 29, 30, 31, 32, 33, 34, 35, 36, 37, 38, 39, 40, 41, 42, 43, 44, 45, 46, 47, 48, 49, 50] (by decide +kernel) (by decide +kernel)
set_option maxRecDepth 20000 in
theorem gX6_rows_X6_rowsOf : GoodIn wsX6_rows (wsV RX6 102 RX6 yX6_rowsOf wsX6_rowsOf) := goodIn_app (goodIn_of _ (by decide +kernel)) ggX6_rows_X6_rowsOf
theorem dX6_rows_0 : decode cX6_rows 0 = .ok (.aload_n 0, 1) := by decide +kernel
theorem dX6_rows_1 : decode cX6_rows 1 = .ok (.iload_n 1, 1) := by decide +kernel
theorem dX6_rows_2 : decode cX6_rows 2 = .ok (.invokevirtual 140, 3) := by decide +kernel
theorem dX6_rows_5 : decode cX6_rows 5 = .ok (.ifCond .eq 7, 3) := by decide +kernel
theorem dX6_rows_8 : decode cX6_rows 8 = .ok (.iconst 0, 1) := by decide +kernel
theorem dX6_rows_9 : decode cX6_rows 9 = .ok (.goto 8, 3) := by decide +kernel
theorem dX6_rows_12 : decode cX6_rows 12 = .ok (.aload_n 0, 1) := by decide +kernel
theorem dX6_rows_13 : decode cX6_rows 13 = .ok (.iload_n 1, 1) := by decide +kernel
theorem dX6_rows_14 : decode cX6_rows 14 = .ok (.invokevirtual 102, 3) := by decide +kernel
theorem dX6_rows_17 : decode cX6_rows 17 = .ok (.ireturn, 1) := by decide +kernel
set_option maxRecDepth 20000 in
theorem ggX6_stitch_X6_isPattern : GoodIn wsX6_stitch wsX6_isPattern := goodIn_r _ [5, 6, 7, 8, 4, 9, 39, 40, 41, 42, 43, 44, 45, 46, 47, 48, 49, 50, 51, 52, 53, 54, 55, 56, 57, 58, 59, 60, 61, 62, 63, 64] (by decide +kernel) (by decide +kernel)
set_option maxRecDepth 20000 in
theorem gX6_stitch_X6_isPattern : GoodIn wsX6_stitch (wsV RX6 96 RX6 yX6_isPattern wsX6_isPattern) := goodIn_app (goodIn_of _ (by decide +kernel)) ggX6_stitch_X6_isPattern
set_option maxRecDepth 20000 in
theorem ggX6_stitch_X6_rowsOf : GoodIn wsX6_stitch wsX6_rowsOf := goodIn_r _ [13, 14, 15, 39, 40, 41, 42, 43, 44, 45, 46, 47, 48, 49, 50, 51, 52, 53, 54, 55, 56, 57, 58, 59, 60, 61, 62, 63, 64] (by decide +kernel) (by decide +kernel)
set_option maxRecDepth 20000 in
theorem gX6_stitch_X6_rowsOf : GoodIn wsX6_stitch (wsV RX6 102 RX6 yX6_rowsOf wsX6_rowsOf) := goodIn_app (goodIn_of _ (by decide +kernel)) ggX6_stitch_X6_rowsOf
set_option maxRecDepth 20000 in
theorem ggX6_stitch_X6_in : GoodIn wsX6_stitch wsX6_in := goodIn_r _ [9] (by decide +kernel) (by decide +kernel)
set_option maxRecDepth 20000 in
theorem gX6_stitch_X6_in : GoodIn wsX6_stitch (va_wsS RX6 72 yX6_in wsX6_in) := goodIn_app (goodIn_of _ (by decide +kernel)) ggX6_stitch_X6_in
set_option maxRecDepth 20000 in
theorem ggX6_stitch_X6_refused : GoodIn wsX6_stitch wsX6_refused := goodIn_r _ [19, 20, 39, 40, 41, 42, 43, 44, 45, 46, 47, 48, 49, 50, 51, 52, 53, 54, 55, 56, 57, 58, 59, 60, 61, 62, 63, 64] (by decide +kernel) (by decide +kernel)
set_option maxRecDepth 20000 in
theorem gX6_stitch_X6_refused : GoodIn wsX6_stitch (wsV RX6 89 RX6 yX6_refused wsX6_refused) := goodIn_app (goodIn_of _ (by decide +kernel)) ggX6_stitch_X6_refused
set_option maxRecDepth 20000 in
theorem ggX6_stitch_X6_stitchOf : GoodIn wsX6_stitch wsX6_stitchOf := goodIn_r _ [24, 25, 26, 27, 4, 28, 29, 30, 31, 15, 32, 33, 34, 35, 36, 37, 38, 39, 40, 41, 42, 43, 44, 45, 46, 47, 48, 49, 50, 51, 52, 53, 54, 55, 56, 57, 58, 59, 60, 61, 62, 63, 64] (by decide +kernel) (by decide +kernel)
set_option maxRecDepth 20000 in
theorem gX6_stitch_X6_stitchOf : GoodIn wsX6_stitch (wsV RX6 127 RX6 yX6_stitchOf wsX6_stitchOf) := goodIn_app (goodIn_of _ (by decide +kernel)) ggX6_stitch_X6_stitchOf
theorem dX6_stitch_0 : decode cX6_stitch 0 = .ok (.aload_n 0, 1) := by decide +kernel
theorem dX6_stitch_1 : decode cX6_stitch 1 = .ok (.iload_n 1, 1) := by decide +kernel
theorem dX6_stitch_2 : decode cX6_stitch 2 = .ok (.invokevirtual 96, 3) := by decide +kernel
theorem dX6_stitch_5 : decode cX6_stitch 5 = .ok (.ifCond .eq 26, 3) := by decide +kernel
theorem dX6_stitch_8 : decode cX6_stitch 8 = .ok (.iload_n 2, 1) := by decide +kernel
theorem dX6_stitch_9 : decode cX6_stitch 9 = .ok (.iconst 0, 1) := by decide +kernel
theorem dX6_stitch_10 : decode cX6_stitch 10 = .ok (.aload_n 0, 1) := by decide +kernel
theorem dX6_stitch_11 : decode cX6_stitch 11 = .ok (.iload_n 1, 1) := by decide +kernel
theorem dX6_stitch_12 : decode cX6_stitch 12 = .ok (.invokevirtual 102, 3) := by decide +kernel
theorem dX6_stitch_15 : decode cX6_stitch 15 = .ok (.iconst 1, 1) := by decide +kernel
theorem dX6_stitch_16 : decode cX6_stitch 16 = .ok (.isub, 1) := by decide +kernel
theorem dX6_stitch_17 : decode cX6_stitch 17 = .ok (.invokestatic 72, 3) := by decide +kernel
theorem dX6_stitch_20 : decode cX6_stitch 20 = .ok (.ifCond .eq 11, 3) := by decide +kernel
theorem dX6_stitch_23 : decode cX6_stitch 23 = .ok (.iload_n 3, 1) := by decide +kernel
theorem dX6_stitch_24 : decode cX6_stitch 24 = .ok (.ifCond .lt 7, 3) := by decide +kernel
theorem dX6_stitch_27 : decode cX6_stitch 27 = .ok (.iconst 1, 1) := by decide +kernel
theorem dX6_stitch_28 : decode cX6_stitch 28 = .ok (.goto 4, 3) := by decide +kernel
theorem dX6_stitch_31 : decode cX6_stitch 31 = .ok (.iconst 0, 1) := by decide +kernel
theorem dX6_stitch_32 : decode cX6_stitch 32 = .ok (.istore 4, 2) := by decide +kernel
theorem dX6_stitch_34 : decode cX6_stitch 34 = .ok (.aload_n 0, 1) := by decide +kernel
theorem dX6_stitch_35 : decode cX6_stitch 35 = .ok (.iload 4, 2) := by decide +kernel
theorem dX6_stitch_37 : decode cX6_stitch 37 = .ok (.ifCond .eq 7, 3) := by decide +kernel
theorem dX6_stitch_40 : decode cX6_stitch 40 = .ok (.iconst 0, 1) := by decide +kernel
theorem dX6_stitch_41 : decode cX6_stitch 41 = .ok (.goto 4, 3) := by decide +kernel
theorem dX6_stitch_44 : decode cX6_stitch 44 = .ok (.iconst 1, 1) := by decide +kernel
theorem dX6_stitch_45 : decode cX6_stitch 45 = .ok (.invokevirtual 89, 3) := by decide +kernel
theorem dX6_stitch_48 : decode cX6_stitch 48 = .ok (.ifCond .eq 7, 3) := by decide +kernel
theorem dX6_stitch_51 : decode cX6_stitch 51 = .ok (.iconst 0, 1) := by decide +kernel
theorem dX6_stitch_52 : decode cX6_stitch 52 = .ok (.goto 10, 3) := by decide +kernel
theorem dX6_stitch_55 : decode cX6_stitch 55 = .ok (.aload_n 0, 1) := by decide +kernel
theorem dX6_stitch_56 : decode cX6_stitch 56 = .ok (.iload_n 1, 1) := by decide +kernel
theorem dX6_stitch_57 : decode cX6_stitch 57 = .ok (.iload_n 2, 1) := by decide +kernel
theorem dX6_stitch_58 : decode cX6_stitch 58 = .ok (.iload_n 3, 1) := by decide +kernel
theorem dX6_stitch_59 : decode cX6_stitch 59 = .ok (.invokevirtual 127, 3) := by decide +kernel
theorem dX6_stitch_62 : decode cX6_stitch 62 = .ok (.ireturn, 1) := by decide +kernel
set_option maxRecDepth 20000 in
theorem ggX6_stitchByWork_X6_stitch : GoodIn wsX6_stitchByWork wsX6_stitch := goodIn_r _ [5, 6, 7, 8, 4, 9, 10, 11, 12, 13, 14, 15, 16, 17, 18, 19, 20, 21, 22, 23, 24, 25, 26, 27, 28, 29, 30, 31, 32, 33, 34, 35, 36, 37, 38, 39, 40, 41, 42, 43, 44, 45, 46, 47, 48, 49, 50, 51, 52, 53, 54, 55, 56, 57, 58, 59, 60, 61, 62, 63, 64, 65, 66, 67, 68] (by decide +kernel) (by decide +kernel)
set_option maxRecDepth 20000 in
theorem gX6_stitchByWork_X6_stitch : GoodIn wsX6_stitchByWork (wsV RX6 143 RX6 yX6_stitch wsX6_stitch) := goodIn_app (goodIn_of _ (by decide +kernel)) ggX6_stitchByWork_X6_stitch
theorem dX6_stitchByWork_0 : decode cX6_stitchByWork 0 = .ok (.aload_n 0, 1) := by decide +kernel
theorem dX6_stitchByWork_1 : decode cX6_stitchByWork 1 = .ok (.iload_n 1, 1) := by decide +kernel
theorem dX6_stitchByWork_2 : decode cX6_stitchByWork 2 = .ok (.iload_n 2, 1) := by decide +kernel
theorem dX6_stitchByWork_3 : decode cX6_stitchByWork 3 = .ok (.iload_n 3, 1) := by decide +kernel
theorem dX6_stitchByWork_4 : decode cX6_stitchByWork 4 = .ok (.invokevirtual 143, 3) := by decide +kernel
theorem dX6_stitchByWork_7 : decode cX6_stitchByWork 7 = .ok (.ireturn, 1) := by decide +kernel
set_option maxRecDepth 20000 in
theorem ggX6_rowNeed_X6_goTo : GoodIn wsX6_rowNeed wsX6_goTo := goodIn_r _ [6, 7, 8, 1, 9, 10, 17, 18, 19, 20, 21, 22, 23, 24, 25, 26, 27, 28, 29, 30, 31, 32, 33, 34, 35, 36, 37, 38, 39, 40, 41, 42] (by decide +kernel) (by decide +kernel)
set_option maxRecDepth 20000 in
theorem gX6_rowNeed_X6_goTo : GoodIn wsX6_rowNeed (wsV RX6 120 RX6 yX6_goTo wsX6_goTo) := goodIn_app (goodIn_of _ (by decide +kernel)) ggX6_rowNeed_X6_goTo
set_option maxRecDepth 20000 in
theorem ggX6_rowNeed_X6_stitchAt : GoodIn wsX6_rowNeed wsX6_stitchAt := goodIn_r _ [14, 1, 15, 7, 16, 17, 18, 19, 20, 21, 22, 23, 24, 25, 26, 27, 28, 29, 30, 31, 32, 33, 34, 35, 36, 37, 38, 39, 40, 41, 42] (by decide +kernel) (by decide +kernel)
set_option maxRecDepth 20000 in
theorem gX6_rowNeed_X6_stitchAt : GoodIn wsX6_rowNeed (wsV RX6 124 RX6 yX6_stitchAt wsX6_stitchAt) := goodIn_app (goodIn_of _ (by decide +kernel)) ggX6_rowNeed_X6_stitchAt
theorem dX6_rowNeed_0 : decode cX6_rowNeed 0 = .ok (.aload_n 0, 1) := by decide +kernel
theorem dX6_rowNeed_1 : decode cX6_rowNeed 1 = .ok (.iload_n 1, 1) := by decide +kernel
theorem dX6_rowNeed_2 : decode cX6_rowNeed 2 = .ok (.iload_n 2, 1) := by decide +kernel
theorem dX6_rowNeed_3 : decode cX6_rowNeed 3 = .ok (.invokevirtual 120, 3) := by decide +kernel
theorem dX6_rowNeed_6 : decode cX6_rowNeed 6 = .ok (.iconst 0, 1) := by decide +kernel
theorem dX6_rowNeed_7 : decode cX6_rowNeed 7 = .ok (.istore 4, 2) := by decide +kernel
theorem dX6_rowNeed_9 : decode cX6_rowNeed 9 = .ok (.iconst 0, 1) := by decide +kernel
theorem dX6_rowNeed_10 : decode cX6_rowNeed 10 = .ok (.istore 5, 2) := by decide +kernel
theorem dX6_rowNeed_12 : decode cX6_rowNeed 12 = .ok (.iload 5, 2) := by decide +kernel
theorem dX6_rowNeed_14 : decode cX6_rowNeed 14 = .ok (.aload_n 0, 1) := by decide +kernel
theorem dX6_rowNeed_15 : decode cX6_rowNeed 15 = .ok (.getfield 117, 3) := by decide +kernel
theorem dX6_rowNeed_18 : decode cX6_rowNeed 18 = .ok (.if_icmp .ge 29, 3) := by decide +kernel
theorem dX6_rowNeed_21 : decode cX6_rowNeed 21 = .ok (.iload 4, 2) := by decide +kernel
theorem dX6_rowNeed_23 : decode cX6_rowNeed 23 = .ok (.aload_n 0, 1) := by decide +kernel
theorem dX6_rowNeed_24 : decode cX6_rowNeed 24 = .ok (.iload 5, 2) := by decide +kernel
theorem dX6_rowNeed_26 : decode cX6_rowNeed 26 = .ok (.invokevirtual 124, 3) := by decide +kernel
theorem dX6_rowNeed_29 : decode cX6_rowNeed 29 = .ok (.iconst 1, 1) := by decide +kernel
theorem dX6_rowNeed_30 : decode cX6_rowNeed 30 = .ok (.if_icmp .ne 7, 3) := by decide +kernel
theorem dX6_rowNeed_33 : decode cX6_rowNeed 33 = .ok (.iconst 2, 1) := by decide +kernel
theorem dX6_rowNeed_34 : decode cX6_rowNeed 34 = .ok (.goto 4, 3) := by decide +kernel
theorem dX6_rowNeed_37 : decode cX6_rowNeed 37 = .ok (.iconst 3, 1) := by decide +kernel
theorem dX6_rowNeed_38 : decode cX6_rowNeed 38 = .ok (.iadd, 1) := by decide +kernel
theorem dX6_rowNeed_39 : decode cX6_rowNeed 39 = .ok (.istore 4, 2) := by decide +kernel
theorem dX6_rowNeed_41 : decode cX6_rowNeed 41 = .ok (.iinc 5 1, 3) := by decide +kernel
theorem dX6_rowNeed_44 : decode cX6_rowNeed 44 = .ok (.goto (-32), 3) := by decide +kernel
theorem dX6_rowNeed_47 : decode cX6_rowNeed 47 = .ok (.iload_n 3, 1) := by decide +kernel
theorem dX6_rowNeed_48 : decode cX6_rowNeed 48 = .ok (.iload 4, 2) := by decide +kernel
theorem dX6_rowNeed_50 : decode cX6_rowNeed 50 = .ok (.imul, 1) := by decide +kernel
theorem dX6_rowNeed_51 : decode cX6_rowNeed 51 = .ok (.ireturn, 1) := by decide +kernel
set_option maxRecDepth 20000 in
theorem ggX6_need_X6_isPattern : GoodIn wsX6_need wsX6_isPattern := goodIn_r _ [5, 6, 7, 8, 4, 9, 39, 40, 41, 42, 43, 44, 45, 46, 47, 48, 49, 50, 51, 52, 53, 54, 55, 56, 57, 58, 59, 60, 61, 62, 63, 64] (by decide +kernel) (by decide +kernel)
set_option maxRecDepth 20000 in
theorem gX6_need_X6_isPattern : GoodIn wsX6_need (wsV RX6 96 RX6 yX6_isPattern wsX6_isPattern) := goodIn_app (goodIn_of _ (by decide +kernel)) ggX6_need_X6_isPattern
set_option maxRecDepth 20000 in
theorem ggX6_need_X6_in : GoodIn wsX6_need wsX6_in := goodIn_r _ [9] (by decide +kernel) (by decide +kernel)
set_option maxRecDepth 20000 in
theorem gX6_need_X6_in : GoodIn wsX6_need (va_wsS RX6 72 yX6_in wsX6_in) := goodIn_app (goodIn_of _ (by decide +kernel)) ggX6_need_X6_in
set_option maxRecDepth 20000 in
theorem ggX6_need_X6_refused : GoodIn wsX6_need wsX6_refused := goodIn_r _ [13, 14, 39, 40, 41, 42, 43, 44, 45, 46, 47, 48, 49, 50, 51, 52, 53, 54, 55, 56, 57, 58, 59, 60, 61, 62, 63, 64] (by decide +kernel) (by decide +kernel)
set_option maxRecDepth 20000 in
theorem gX6_need_X6_refused : GoodIn wsX6_need (wsV RX6 89 RX6 yX6_refused wsX6_refused) := goodIn_app (goodIn_of _ (by decide +kernel)) ggX6_need_X6_refused
set_option maxRecDepth 20000 in
theorem ggX6_need_X6_rowsOf : GoodIn wsX6_need wsX6_rowsOf := goodIn_r _ [18, 19, 20, 39, 40, 41, 42, 43, 44, 45, 46, 47, 48, 49, 50, 51, 52, 53, 54, 55, 56, 57, 58, 59, 60, 61, 62, 63, 64] (by decide +kernel) (by decide +kernel)
set_option maxRecDepth 20000 in
theorem gX6_need_X6_rowsOf : GoodIn wsX6_need (wsV RX6 102 RX6 yX6_rowsOf wsX6_rowsOf) := goodIn_app (goodIn_of _ (by decide +kernel)) ggX6_need_X6_rowsOf
set_option maxRecDepth 20000 in
theorem ggX6_need_X6_rowNeed : GoodIn wsX6_need wsX6_rowNeed := goodIn_r _ [24, 25, 26, 27, 28, 4, 29, 30, 31, 20, 32, 33, 34, 35, 36, 37, 38, 39, 40, 41, 42, 43, 44, 45, 46, 47, 48, 49, 50, 51, 52, 53, 54, 55, 56, 57, 58, 59, 60, 61, 62, 63, 64] (by decide +kernel) (by decide +kernel)
set_option maxRecDepth 20000 in
theorem gX6_need_X6_rowNeed : GoodIn wsX6_need (wsV RX6 146 RX6 yX6_rowNeed wsX6_rowNeed) := goodIn_app (goodIn_of _ (by decide +kernel)) ggX6_need_X6_rowNeed
theorem dX6_need_0 : decode cX6_need 0 = .ok (.aload_n 0, 1) := by decide +kernel
theorem dX6_need_1 : decode cX6_need 1 = .ok (.aload_n 0, 1) := by decide +kernel
theorem dX6_need_2 : decode cX6_need 2 = .ok (.iload_n 1, 1) := by decide +kernel
theorem dX6_need_3 : decode cX6_need 3 = .ok (.invokevirtual 96, 3) := by decide +kernel
theorem dX6_need_6 : decode cX6_need 6 = .ok (.ifCond .ne 7, 3) := by decide +kernel
theorem dX6_need_9 : decode cX6_need 9 = .ok (.iconst 1, 1) := by decide +kernel
theorem dX6_need_10 : decode cX6_need 10 = .ok (.goto 18, 3) := by decide +kernel
theorem dX6_need_13 : decode cX6_need 13 = .ok (.iload_n 2, 1) := by decide +kernel
theorem dX6_need_14 : decode cX6_need 14 = .ok (.iconst 5, 1) := by decide +kernel
theorem dX6_need_15 : decode cX6_need 15 = .ok (.bipush 20, 2) := by decide +kernel
theorem dX6_need_17 : decode cX6_need 17 = .ok (.invokestatic 72, 3) := by decide +kernel
theorem dX6_need_20 : decode cX6_need 20 = .ok (.ifCond .eq 7, 3) := by decide +kernel
theorem dX6_need_23 : decode cX6_need 23 = .ok (.iconst 0, 1) := by decide +kernel
theorem dX6_need_24 : decode cX6_need 24 = .ok (.goto 4, 3) := by decide +kernel
theorem dX6_need_27 : decode cX6_need 27 = .ok (.iconst 2, 1) := by decide +kernel
theorem dX6_need_28 : decode cX6_need 28 = .ok (.invokevirtual 89, 3) := by decide +kernel
theorem dX6_need_31 : decode cX6_need 31 = .ok (.ifCond .eq 5, 3) := by decide +kernel
theorem dX6_need_34 : decode cX6_need 34 = .ok (.iconst 0, 1) := by decide +kernel
theorem dX6_need_35 : decode cX6_need 35 = .ok (.ireturn, 1) := by decide +kernel
theorem dX6_need_36 : decode cX6_need 36 = .ok (.iconst 0, 1) := by decide +kernel
theorem dX6_need_37 : decode cX6_need 37 = .ok (.istore_n 3, 1) := by decide +kernel
theorem dX6_need_38 : decode cX6_need 38 = .ok (.iconst 0, 1) := by decide +kernel
theorem dX6_need_39 : decode cX6_need 39 = .ok (.istore 4, 2) := by decide +kernel
theorem dX6_need_41 : decode cX6_need 41 = .ok (.iload 4, 2) := by decide +kernel
theorem dX6_need_43 : decode cX6_need 43 = .ok (.aload_n 0, 1) := by decide +kernel
theorem dX6_need_44 : decode cX6_need 44 = .ok (.iload_n 1, 1) := by decide +kernel
theorem dX6_need_45 : decode cX6_need 45 = .ok (.invokevirtual 102, 3) := by decide +kernel
theorem dX6_need_48 : decode cX6_need 48 = .ok (.if_icmp .ge 20, 3) := by decide +kernel
theorem dX6_need_51 : decode cX6_need 51 = .ok (.iload_n 3, 1) := by decide +kernel
theorem dX6_need_52 : decode cX6_need 52 = .ok (.aload_n 0, 1) := by decide +kernel
theorem dX6_need_53 : decode cX6_need 53 = .ok (.iload_n 1, 1) := by decide +kernel
theorem dX6_need_54 : decode cX6_need 54 = .ok (.iload 4, 2) := by decide +kernel
theorem dX6_need_56 : decode cX6_need 56 = .ok (.iload_n 2, 1) := by decide +kernel
theorem dX6_need_57 : decode cX6_need 57 = .ok (.invokevirtual 146, 3) := by decide +kernel
theorem dX6_need_60 : decode cX6_need 60 = .ok (.iadd, 1) := by decide +kernel
theorem dX6_need_61 : decode cX6_need 61 = .ok (.istore_n 3, 1) := by decide +kernel
theorem dX6_need_62 : decode cX6_need 62 = .ok (.iinc 4 1, 3) := by decide +kernel
theorem dX6_need_65 : decode cX6_need 65 = .ok (.goto (-24), 3) := by decide +kernel
theorem dX6_need_68 : decode cX6_need 68 = .ok (.iload_n 3, 1) := by decide +kernel
theorem dX6_need_69 : decode cX6_need 69 = .ok (.ireturn, 1) := by decide +kernel
theorem dX6_hasBought_0 : decode cX6_hasBought 0 = .ok (.aload_n 0, 1) := by decide +kernel
theorem dX6_hasBought_1 : decode cX6_hasBought 1 = .ok (.getfield 41, 3) := by decide +kernel
theorem dX6_hasBought_4 : decode cX6_hasBought 4 = .ok (.iload_n 1, 1) := by decide +kernel
theorem dX6_hasBought_5 : decode cX6_hasBought 5 = .ok (.iaload, 1) := by decide +kernel
theorem dX6_hasBought_6 : decode cX6_hasBought 6 = .ok (.iload_n 2, 1) := by decide +kernel
theorem dX6_hasBought_7 : decode cX6_hasBought 7 = .ok (.ishr, 1) := by decide +kernel
theorem dX6_hasBought_8 : decode cX6_hasBought 8 = .ok (.iconst 1, 1) := by decide +kernel
theorem dX6_hasBought_9 : decode cX6_hasBought 9 = .ok (.iand, 1) := by decide +kernel
theorem dX6_hasBought_10 : decode cX6_hasBought 10 = .ok (.iconst 1, 1) := by decide +kernel
theorem dX6_hasBought_11 : decode cX6_hasBought 11 = .ok (.if_icmp .ne 7, 3) := by decide +kernel
theorem dX6_hasBought_14 : decode cX6_hasBought 14 = .ok (.iconst 1, 1) := by decide +kernel
theorem dX6_hasBought_15 : decode cX6_hasBought 15 = .ok (.goto 4, 3) := by decide +kernel
theorem dX6_hasBought_18 : decode cX6_hasBought 18 = .ok (.iconst 0, 1) := by decide +kernel
theorem dX6_hasBought_19 : decode cX6_hasBought 19 = .ok (.ireturn, 1) := by decide +kernel
set_option maxRecDepth 20000 in
theorem ggX6_buy_X6_isPattern : GoodIn wsX6_buy wsX6_isPattern := goodIn_r _ [10, 11, 12, 13, 9, 14, 32, 33, 34, 35, 36, 37, 38, 39, 40, 41, 42, 43, 44, 45, 46, 47, 48, 49, 50, 51, 52, 53, 54, 55, 56, 57] (by decide +kernel) (by decide +kernel)
set_option maxRecDepth 20000 in
theorem gX6_buy_X6_isPattern : GoodIn wsX6_buy (wsV RX6 96 RX6 yX6_isPattern wsX6_isPattern) := goodIn_app (goodIn_of _ (by decide +kernel)) ggX6_buy_X6_isPattern
set_option maxRecDepth 20000 in
theorem ggX6_buy_X6_isPerson : GoodIn wsX6_buy wsX6_isPerson := goodIn_r _ [17, 12, 13, 9, 14] (by decide +kernel) (by decide +kernel)
set_option maxRecDepth 20000 in
theorem gX6_buy_X6_isPerson : GoodIn wsX6_buy (va_wsS RX6 85 yX6_isPerson wsX6_isPerson) := goodIn_app (goodIn_of _ (by decide +kernel)) ggX6_buy_X6_isPerson
set_option maxRecDepth 20000 in
theorem ggX6_buy_X6_isPublished : GoodIn wsX6_buy wsX6_isPublished := goodIn_r _ [21, 22, 32, 33, 34, 35, 36, 37, 38, 39, 40, 41, 42, 43, 44, 45, 46, 47, 48, 49, 50, 51, 52, 53, 54, 55, 56, 57] (by decide +kernel) (by decide +kernel)
set_option maxRecDepth 20000 in
theorem gX6_buy_X6_isPublished : GoodIn wsX6_buy (wsV RX6 99 RX6 yX6_isPublished wsX6_isPublished) := goodIn_app (goodIn_of _ (by decide +kernel)) ggX6_buy_X6_isPublished
set_option maxRecDepth 20000 in
theorem ggX6_buy_X6_hasBought : GoodIn wsX6_buy wsX6_hasBought := goodIn_r _ [26, 3, 32, 33, 34, 35, 36, 37, 38, 39, 40, 41, 42, 43, 44, 45, 46, 47, 48, 49, 50, 51, 52, 53, 54, 55, 56, 57] (by decide +kernel) (by decide +kernel)
set_option maxRecDepth 20000 in
theorem gX6_buy_X6_hasBought : GoodIn wsX6_buy (wsV RX6 149 RX6 yX6_hasBought wsX6_hasBought) := goodIn_app (goodIn_of _ (by decide +kernel)) ggX6_buy_X6_hasBought
set_option maxRecDepth 20000 in
theorem ggX6_buy_X6_refused : GoodIn wsX6_buy wsX6_refused := goodIn_r _ [30, 31, 32, 33, 34, 35, 36, 37, 38, 39, 40, 41, 42, 43, 44, 45, 46, 47, 48, 49, 50, 51, 52, 53, 54, 55, 56, 57] (by decide +kernel) (by decide +kernel)
set_option maxRecDepth 20000 in
theorem gX6_buy_X6_refused : GoodIn wsX6_buy (wsV RX6 89 RX6 yX6_refused wsX6_refused) := goodIn_app (goodIn_of _ (by decide +kernel)) ggX6_buy_X6_refused
theorem dX6_buy_0 : decode cX6_buy 0 = .ok (.aload_n 0, 1) := by decide +kernel
theorem dX6_buy_1 : decode cX6_buy 1 = .ok (.iload_n 1, 1) := by decide +kernel
theorem dX6_buy_2 : decode cX6_buy 2 = .ok (.invokevirtual 96, 3) := by decide +kernel
theorem dX6_buy_5 : decode cX6_buy 5 = .ok (.ifCond .eq 14, 3) := by decide +kernel
theorem dX6_buy_8 : decode cX6_buy 8 = .ok (.iload_n 2, 1) := by decide +kernel
theorem dX6_buy_9 : decode cX6_buy 9 = .ok (.invokestatic 85, 3) := by decide +kernel
theorem dX6_buy_12 : decode cX6_buy 12 = .ok (.ifCond .eq 7, 3) := by decide +kernel
theorem dX6_buy_15 : decode cX6_buy 15 = .ok (.iconst 1, 1) := by decide +kernel
theorem dX6_buy_16 : decode cX6_buy 16 = .ok (.goto 4, 3) := by decide +kernel
theorem dX6_buy_19 : decode cX6_buy 19 = .ok (.iconst 0, 1) := by decide +kernel
theorem dX6_buy_20 : decode cX6_buy 20 = .ok (.istore_n 3, 1) := by decide +kernel
theorem dX6_buy_21 : decode cX6_buy 21 = .ok (.iload_n 3, 1) := by decide +kernel
theorem dX6_buy_22 : decode cX6_buy 22 = .ok (.ifCond .eq 43, 3) := by decide +kernel
theorem dX6_buy_25 : decode cX6_buy 25 = .ok (.aload_n 0, 1) := by decide +kernel
theorem dX6_buy_26 : decode cX6_buy 26 = .ok (.iload_n 1, 1) := by decide +kernel
theorem dX6_buy_27 : decode cX6_buy 27 = .ok (.invokevirtual 99, 3) := by decide +kernel
theorem dX6_buy_30 : decode cX6_buy 30 = .ok (.ifCond .eq 35, 3) := by decide +kernel
theorem dX6_buy_33 : decode cX6_buy 33 = .ok (.aload_n 0, 1) := by decide +kernel
theorem dX6_buy_34 : decode cX6_buy 34 = .ok (.getfield 37, 3) := by decide +kernel
theorem dX6_buy_37 : decode cX6_buy 37 = .ok (.iload_n 1, 1) := by decide +kernel
theorem dX6_buy_38 : decode cX6_buy 38 = .ok (.baload, 1) := by decide +kernel
theorem dX6_buy_39 : decode cX6_buy 39 = .ok (.ifCond .ne 26, 3) := by decide +kernel
theorem dX6_buy_42 : decode cX6_buy 42 = .ok (.aload_n 0, 1) := by decide +kernel
theorem dX6_buy_43 : decode cX6_buy 43 = .ok (.getfield 7, 3) := by decide +kernel
theorem dX6_buy_46 : decode cX6_buy 46 = .ok (.iload_n 1, 1) := by decide +kernel
theorem dX6_buy_47 : decode cX6_buy 47 = .ok (.iaload, 1) := by decide +kernel
theorem dX6_buy_48 : decode cX6_buy 48 = .ok (.iload_n 2, 1) := by decide +kernel
theorem dX6_buy_49 : decode cX6_buy 49 = .ok (.if_icmp .eq 16, 3) := by decide +kernel
theorem dX6_buy_52 : decode cX6_buy 52 = .ok (.aload_n 0, 1) := by decide +kernel
theorem dX6_buy_53 : decode cX6_buy 53 = .ok (.iload_n 1, 1) := by decide +kernel
theorem dX6_buy_54 : decode cX6_buy 54 = .ok (.iload_n 2, 1) := by decide +kernel
theorem dX6_buy_55 : decode cX6_buy 55 = .ok (.invokevirtual 149, 3) := by decide +kernel
theorem dX6_buy_58 : decode cX6_buy 58 = .ok (.ifCond .ne 7, 3) := by decide +kernel
theorem dX6_buy_61 : decode cX6_buy 61 = .ok (.iconst 1, 1) := by decide +kernel
theorem dX6_buy_62 : decode cX6_buy 62 = .ok (.goto 4, 3) := by decide +kernel
theorem dX6_buy_65 : decode cX6_buy 65 = .ok (.iconst 0, 1) := by decide +kernel
theorem dX6_buy_66 : decode cX6_buy 66 = .ok (.istore 4, 2) := by decide +kernel
theorem dX6_buy_68 : decode cX6_buy 68 = .ok (.aload_n 0, 1) := by decide +kernel
theorem dX6_buy_69 : decode cX6_buy 69 = .ok (.iload_n 3, 1) := by decide +kernel
theorem dX6_buy_70 : decode cX6_buy 70 = .ok (.ifCond .ne 7, 3) := by decide +kernel
theorem dX6_buy_73 : decode cX6_buy 73 = .ok (.iconst 1, 1) := by decide +kernel
theorem dX6_buy_74 : decode cX6_buy 74 = .ok (.goto 13, 3) := by decide +kernel
theorem dX6_buy_77 : decode cX6_buy 77 = .ok (.iload 4, 2) := by decide +kernel
theorem dX6_buy_79 : decode cX6_buy 79 = .ok (.ifCond .eq 7, 3) := by decide +kernel
theorem dX6_buy_82 : decode cX6_buy 82 = .ok (.iconst 0, 1) := by decide +kernel
theorem dX6_buy_83 : decode cX6_buy 83 = .ok (.goto 4, 3) := by decide +kernel
theorem dX6_buy_86 : decode cX6_buy 86 = .ok (.iconst 2, 1) := by decide +kernel
theorem dX6_buy_87 : decode cX6_buy 87 = .ok (.invokevirtual 89, 3) := by decide +kernel
theorem dX6_buy_90 : decode cX6_buy 90 = .ok (.ifCond .eq 5, 3) := by decide +kernel
theorem dX6_buy_93 : decode cX6_buy 93 = .ok (.iconst 0, 1) := by decide +kernel
theorem dX6_buy_94 : decode cX6_buy 94 = .ok (.ireturn, 1) := by decide +kernel
theorem dX6_buy_95 : decode cX6_buy 95 = .ok (.aload_n 0, 1) := by decide +kernel
theorem dX6_buy_96 : decode cX6_buy 96 = .ok (.getfield 41, 3) := by decide +kernel
theorem dX6_buy_99 : decode cX6_buy 99 = .ok (.iload_n 1, 1) := by decide +kernel
theorem dX6_buy_100 : decode cX6_buy 100 = .ok (.dup2, 1) := by decide +kernel
theorem dX6_buy_101 : decode cX6_buy 101 = .ok (.iaload, 1) := by decide +kernel
theorem dX6_buy_102 : decode cX6_buy 102 = .ok (.iconst 1, 1) := by decide +kernel
theorem dX6_buy_103 : decode cX6_buy 103 = .ok (.iload_n 2, 1) := by decide +kernel
theorem dX6_buy_104 : decode cX6_buy 104 = .ok (.ishl, 1) := by decide +kernel
theorem dX6_buy_105 : decode cX6_buy 105 = .ok (.ior, 1) := by decide +kernel
theorem dX6_buy_106 : decode cX6_buy 106 = .ok (.iastore, 1) := by decide +kernel
theorem dX6_buy_107 : decode cX6_buy 107 = .ok (.aload_n 0, 1) := by decide +kernel
theorem dX6_buy_108 : decode cX6_buy 108 = .ok (.getfield 44, 3) := by decide +kernel
theorem dX6_buy_111 : decode cX6_buy 111 = .ok (.iload_n 2, 1) := by decide +kernel
theorem dX6_buy_112 : decode cX6_buy 112 = .ok (.dup2, 1) := by decide +kernel
theorem dX6_buy_113 : decode cX6_buy 113 = .ok (.iaload, 1) := by decide +kernel
theorem dX6_buy_114 : decode cX6_buy 114 = .ok (.aload_n 0, 1) := by decide +kernel
theorem dX6_buy_115 : decode cX6_buy 115 = .ok (.getfield 16, 3) := by decide +kernel
theorem dX6_buy_118 : decode cX6_buy 118 = .ok (.iload_n 1, 1) := by decide +kernel
theorem dX6_buy_119 : decode cX6_buy 119 = .ok (.iaload, 1) := by decide +kernel
theorem dX6_buy_120 : decode cX6_buy 120 = .ok (.isub, 1) := by decide +kernel
theorem dX6_buy_121 : decode cX6_buy 121 = .ok (.iastore, 1) := by decide +kernel
theorem dX6_buy_122 : decode cX6_buy 122 = .ok (.aload_n 0, 1) := by decide +kernel
theorem dX6_buy_123 : decode cX6_buy 123 = .ok (.getfield 44, 3) := by decide +kernel
theorem dX6_buy_126 : decode cX6_buy 126 = .ok (.aload_n 0, 1) := by decide +kernel
theorem dX6_buy_127 : decode cX6_buy 127 = .ok (.getfield 7, 3) := by decide +kernel
theorem dX6_buy_130 : decode cX6_buy 130 = .ok (.iload_n 1, 1) := by decide +kernel
theorem dX6_buy_131 : decode cX6_buy 131 = .ok (.iaload, 1) := by decide +kernel
theorem dX6_buy_132 : decode cX6_buy 132 = .ok (.dup2, 1) := by decide +kernel
theorem dX6_buy_133 : decode cX6_buy 133 = .ok (.iaload, 1) := by decide +kernel
theorem dX6_buy_134 : decode cX6_buy 134 = .ok (.aload_n 0, 1) := by decide +kernel
theorem dX6_buy_135 : decode cX6_buy 135 = .ok (.getfield 16, 3) := by decide +kernel
theorem dX6_buy_138 : decode cX6_buy 138 = .ok (.iload_n 1, 1) := by decide +kernel
theorem dX6_buy_139 : decode cX6_buy 139 = .ok (.iaload, 1) := by decide +kernel
theorem dX6_buy_140 : decode cX6_buy 140 = .ok (.iadd, 1) := by decide +kernel
theorem dX6_buy_141 : decode cX6_buy 141 = .ok (.iastore, 1) := by decide +kernel
theorem dX6_buy_142 : decode cX6_buy 142 = .ok (.aload_n 0, 1) := by decide +kernel
theorem dX6_buy_143 : decode cX6_buy 143 = .ok (.getfield 44, 3) := by decide +kernel
theorem dX6_buy_146 : decode cX6_buy 146 = .ok (.aload_n 0, 1) := by decide +kernel
theorem dX6_buy_147 : decode cX6_buy 147 = .ok (.getfield 7, 3) := by decide +kernel
theorem dX6_buy_150 : decode cX6_buy 150 = .ok (.iload_n 1, 1) := by decide +kernel
theorem dX6_buy_151 : decode cX6_buy 151 = .ok (.iaload, 1) := by decide +kernel
theorem dX6_buy_152 : decode cX6_buy 152 = .ok (.iaload, 1) := by decide +kernel
theorem dX6_buy_153 : decode cX6_buy 153 = .ok (.ireturn, 1) := by decide +kernel
set_option maxRecDepth 20000 in
theorem ggX6_rule_X6_isPattern : GoodIn wsX6_rule wsX6_isPattern := goodIn_r _ [9, 10, 11, 12, 8, 13, 61, 62, 63, 64, 65, 66, 67, 68, 69, 70, 71, 72, 73, 74, 75, 76, 77, 78, 79, 80, 81, 82, 83, 84, 85, 86] (by decide +kernel) (by decide +kernel)
set_option maxRecDepth 20000 in
theorem gX6_rule_X6_isPattern : GoodIn wsX6_rule (wsV RX6 96 RX6 yX6_isPattern wsX6_isPattern) := goodIn_app (goodIn_of _ (by decide +kernel)) ggX6_rule_X6_isPattern
set_option maxRecDepth 20000 in
theorem ggX6_rule_X6_isPublished : GoodIn wsX6_rule wsX6_isPublished := goodIn_r _ [17, 18, 61, 62, 63, 64, 65, 66, 67, 68, 69, 70, 71, 72, 73, 74, 75, 76, 77, 78, 79, 80, 81, 82, 83, 84, 85, 86] (by decide +kernel) (by decide +kernel)
set_option maxRecDepth 20000 in
theorem gX6_rule_X6_isPublished : GoodIn wsX6_rule (wsV RX6 99 RX6 yX6_isPublished wsX6_isPublished) := goodIn_app (goodIn_of _ (by decide +kernel)) ggX6_rule_X6_isPublished
set_option maxRecDepth 20000 in
theorem ggX6_rule_X6_originalOf : GoodIn wsX6_rule wsX6_originalOf := goodIn_r _ [22, 10, 18, 23, 24, 25, 8, 26, 27, 28, 29, 30, 31, 32, 33, 34, 35, 36, 37, 38, 39, 40, 41, 42, 43, 44, 45, 46, 47, 48, 49, 50, 61, 62, 63, 64, 65, 66, 67, 68, 69, 70, 71, 72, 73, 74, 75, 76, 77, 78, 79, 80, 81, 82, 83, 84, 85, 86] (by decide +kernel) (by decide +kernel)
set_option maxRecDepth 20000 in
theorem gX6_rule_X6_originalOf : GoodIn wsX6_rule (wsV RX6 137 RX6 yX6_originalOf wsX6_originalOf) := goodIn_app (goodIn_of _ (by decide +kernel)) ggX6_rule_X6_originalOf
set_option maxRecDepth 20000 in
theorem ggX6_rule_X6_refused : GoodIn wsX6_rule wsX6_refused := goodIn_r _ [54, 55, 61, 62, 63, 64, 65, 66, 67, 68, 69, 70, 71, 72, 73, 74, 75, 76, 77, 78, 79, 80, 81, 82, 83, 84, 85, 86] (by decide +kernel) (by decide +kernel)
set_option maxRecDepth 20000 in
theorem gX6_rule_X6_refused : GoodIn wsX6_rule (wsV RX6 89 RX6 yX6_refused wsX6_refused) := goodIn_app (goodIn_of _ (by decide +kernel)) ggX6_rule_X6_refused
set_option maxRecDepth 20000 in
theorem ggX6_rule_X6_hasBought : GoodIn wsX6_rule wsX6_hasBought := goodIn_r _ [59, 60, 61, 62, 63, 64, 65, 66, 67, 68, 69, 70, 71, 72, 73, 74, 75, 76, 77, 78, 79, 80, 81, 82, 83, 84, 85, 86] (by decide +kernel) (by decide +kernel)
set_option maxRecDepth 20000 in
theorem gX6_rule_X6_hasBought : GoodIn wsX6_rule (wsV RX6 149 RX6 yX6_hasBought wsX6_hasBought) := goodIn_app (goodIn_of _ (by decide +kernel)) ggX6_rule_X6_hasBought
theorem dX6_rule_0 : decode cX6_rule 0 = .ok (.aload_n 0, 1) := by decide +kernel
theorem dX6_rule_1 : decode cX6_rule 1 = .ok (.iload_n 1, 1) := by decide +kernel
theorem dX6_rule_2 : decode cX6_rule 2 = .ok (.invokevirtual 96, 3) := by decide +kernel
theorem dX6_rule_5 : decode cX6_rule 5 = .ok (.ifCond .eq 43, 3) := by decide +kernel
theorem dX6_rule_8 : decode cX6_rule 8 = .ok (.aload_n 0, 1) := by decide +kernel
theorem dX6_rule_9 : decode cX6_rule 9 = .ok (.iload_n 1, 1) := by decide +kernel
theorem dX6_rule_10 : decode cX6_rule 10 = .ok (.invokevirtual 99, 3) := by decide +kernel
theorem dX6_rule_13 : decode cX6_rule 13 = .ok (.ifCond .eq 35, 3) := by decide +kernel
theorem dX6_rule_16 : decode cX6_rule 16 = .ok (.aload_n 0, 1) := by decide +kernel
theorem dX6_rule_17 : decode cX6_rule 17 = .ok (.getfield 37, 3) := by decide +kernel
theorem dX6_rule_20 : decode cX6_rule 20 = .ok (.iload_n 1, 1) := by decide +kernel
theorem dX6_rule_21 : decode cX6_rule 21 = .ok (.baload, 1) := by decide +kernel
theorem dX6_rule_22 : decode cX6_rule 22 = .ok (.ifCond .ne 26, 3) := by decide +kernel
theorem dX6_rule_25 : decode cX6_rule 25 = .ok (.aload_n 0, 1) := by decide +kernel
theorem dX6_rule_26 : decode cX6_rule 26 = .ok (.getfield 7, 3) := by decide +kernel
theorem dX6_rule_29 : decode cX6_rule 29 = .ok (.aload_n 0, 1) := by decide +kernel
theorem dX6_rule_30 : decode cX6_rule 30 = .ok (.iload_n 1, 1) := by decide +kernel
theorem dX6_rule_31 : decode cX6_rule 31 = .ok (.invokevirtual 137, 3) := by decide +kernel
theorem dX6_rule_34 : decode cX6_rule 34 = .ok (.iaload, 1) := by decide +kernel
theorem dX6_rule_35 : decode cX6_rule 35 = .ok (.aload_n 0, 1) := by decide +kernel
theorem dX6_rule_36 : decode cX6_rule 36 = .ok (.getfield 7, 3) := by decide +kernel
theorem dX6_rule_39 : decode cX6_rule 39 = .ok (.iload_n 1, 1) := by decide +kernel
theorem dX6_rule_40 : decode cX6_rule 40 = .ok (.iaload, 1) := by decide +kernel
theorem dX6_rule_41 : decode cX6_rule 41 = .ok (.if_icmp .eq 7, 3) := by decide +kernel
theorem dX6_rule_44 : decode cX6_rule 44 = .ok (.iconst 1, 1) := by decide +kernel
theorem dX6_rule_45 : decode cX6_rule 45 = .ok (.goto 4, 3) := by decide +kernel
theorem dX6_rule_48 : decode cX6_rule 48 = .ok (.iconst 0, 1) := by decide +kernel
theorem dX6_rule_49 : decode cX6_rule 49 = .ok (.istore_n 2, 1) := by decide +kernel
theorem dX6_rule_50 : decode cX6_rule 50 = .ok (.aload_n 0, 1) := by decide +kernel
theorem dX6_rule_51 : decode cX6_rule 51 = .ok (.aload_n 0, 1) := by decide +kernel
theorem dX6_rule_52 : decode cX6_rule 52 = .ok (.iload_n 1, 1) := by decide +kernel
theorem dX6_rule_53 : decode cX6_rule 53 = .ok (.invokevirtual 96, 3) := by decide +kernel
theorem dX6_rule_56 : decode cX6_rule 56 = .ok (.ifCond .ne 7, 3) := by decide +kernel
theorem dX6_rule_59 : decode cX6_rule 59 = .ok (.iconst 1, 1) := by decide +kernel
theorem dX6_rule_60 : decode cX6_rule 60 = .ok (.goto 12, 3) := by decide +kernel
theorem dX6_rule_63 : decode cX6_rule 63 = .ok (.iload_n 2, 1) := by decide +kernel
theorem dX6_rule_64 : decode cX6_rule 64 = .ok (.ifCond .eq 7, 3) := by decide +kernel
theorem dX6_rule_67 : decode cX6_rule 67 = .ok (.iconst 0, 1) := by decide +kernel
theorem dX6_rule_68 : decode cX6_rule 68 = .ok (.goto 4, 3) := by decide +kernel
theorem dX6_rule_71 : decode cX6_rule 71 = .ok (.iconst 2, 1) := by decide +kernel
theorem dX6_rule_72 : decode cX6_rule 72 = .ok (.invokevirtual 89, 3) := by decide +kernel
theorem dX6_rule_75 : decode cX6_rule 75 = .ok (.ifCond .eq 5, 3) := by decide +kernel
theorem dX6_rule_78 : decode cX6_rule 78 = .ok (.iconst 0, 1) := by decide +kernel
theorem dX6_rule_79 : decode cX6_rule 79 = .ok (.ireturn, 1) := by decide +kernel
theorem dX6_rule_80 : decode cX6_rule 80 = .ok (.iconst 0, 1) := by decide +kernel
theorem dX6_rule_81 : decode cX6_rule 81 = .ok (.istore_n 3, 1) := by decide +kernel
theorem dX6_rule_82 : decode cX6_rule 82 = .ok (.iconst 0, 1) := by decide +kernel
theorem dX6_rule_83 : decode cX6_rule 83 = .ok (.istore 4, 2) := by decide +kernel
theorem dX6_rule_85 : decode cX6_rule 85 = .ok (.iload 4, 2) := by decide +kernel
theorem dX6_rule_87 : decode cX6_rule 87 = .ok (.iconst 5, 1) := by decide +kernel
theorem dX6_rule_88 : decode cX6_rule 88 = .ok (.if_icmp .ge 32, 3) := by decide +kernel
theorem dX6_rule_91 : decode cX6_rule 91 = .ok (.iload_n 3, 1) := by decide +kernel
theorem dX6_rule_92 : decode cX6_rule 92 = .ok (.aload_n 0, 1) := by decide +kernel
theorem dX6_rule_93 : decode cX6_rule 93 = .ok (.iload_n 1, 1) := by decide +kernel
theorem dX6_rule_94 : decode cX6_rule 94 = .ok (.iload 4, 2) := by decide +kernel
theorem dX6_rule_96 : decode cX6_rule 96 = .ok (.invokevirtual 149, 3) := by decide +kernel
theorem dX6_rule_99 : decode cX6_rule 99 = .ok (.ifCond .eq 12, 3) := by decide +kernel
theorem dX6_rule_102 : decode cX6_rule 102 = .ok (.aload_n 0, 1) := by decide +kernel
theorem dX6_rule_103 : decode cX6_rule 103 = .ok (.getfield 16, 3) := by decide +kernel
theorem dX6_rule_106 : decode cX6_rule 106 = .ok (.iload_n 1, 1) := by decide +kernel
theorem dX6_rule_107 : decode cX6_rule 107 = .ok (.iaload, 1) := by decide +kernel
theorem dX6_rule_108 : decode cX6_rule 108 = .ok (.goto 4, 3) := by decide +kernel
theorem dX6_rule_111 : decode cX6_rule 111 = .ok (.iconst 0, 1) := by decide +kernel
theorem dX6_rule_112 : decode cX6_rule 112 = .ok (.iadd, 1) := by decide +kernel
theorem dX6_rule_113 : decode cX6_rule 113 = .ok (.istore_n 3, 1) := by decide +kernel
theorem dX6_rule_114 : decode cX6_rule 114 = .ok (.iinc 4 1, 3) := by decide +kernel
theorem dX6_rule_117 : decode cX6_rule 117 = .ok (.goto (-32), 3) := by decide +kernel
theorem dX6_rule_120 : decode cX6_rule 120 = .ok (.aload_n 0, 1) := by decide +kernel
theorem dX6_rule_121 : decode cX6_rule 121 = .ok (.getfield 37, 3) := by decide +kernel
theorem dX6_rule_124 : decode cX6_rule 124 = .ok (.iload_n 1, 1) := by decide +kernel
theorem dX6_rule_125 : decode cX6_rule 125 = .ok (.iconst 1, 1) := by decide +kernel
theorem dX6_rule_126 : decode cX6_rule 126 = .ok (.bastore, 1) := by decide +kernel
theorem dX6_rule_127 : decode cX6_rule 127 = .ok (.aload_n 0, 1) := by decide +kernel
theorem dX6_rule_128 : decode cX6_rule 128 = .ok (.getfield 44, 3) := by decide +kernel
theorem dX6_rule_131 : decode cX6_rule 131 = .ok (.aload_n 0, 1) := by decide +kernel
theorem dX6_rule_132 : decode cX6_rule 132 = .ok (.getfield 7, 3) := by decide +kernel
theorem dX6_rule_135 : decode cX6_rule 135 = .ok (.iload_n 1, 1) := by decide +kernel
theorem dX6_rule_136 : decode cX6_rule 136 = .ok (.iaload, 1) := by decide +kernel
theorem dX6_rule_137 : decode cX6_rule 137 = .ok (.dup2, 1) := by decide +kernel
theorem dX6_rule_138 : decode cX6_rule 138 = .ok (.iaload, 1) := by decide +kernel
theorem dX6_rule_139 : decode cX6_rule 139 = .ok (.iload_n 3, 1) := by decide +kernel
theorem dX6_rule_140 : decode cX6_rule 140 = .ok (.isub, 1) := by decide +kernel
theorem dX6_rule_141 : decode cX6_rule 141 = .ok (.iastore, 1) := by decide +kernel
theorem dX6_rule_142 : decode cX6_rule 142 = .ok (.aload_n 0, 1) := by decide +kernel
theorem dX6_rule_143 : decode cX6_rule 143 = .ok (.getfield 44, 3) := by decide +kernel
theorem dX6_rule_146 : decode cX6_rule 146 = .ok (.aload_n 0, 1) := by decide +kernel
theorem dX6_rule_147 : decode cX6_rule 147 = .ok (.getfield 7, 3) := by decide +kernel
theorem dX6_rule_150 : decode cX6_rule 150 = .ok (.aload_n 0, 1) := by decide +kernel
theorem dX6_rule_151 : decode cX6_rule 151 = .ok (.iload_n 1, 1) := by decide +kernel
theorem dX6_rule_152 : decode cX6_rule 152 = .ok (.invokevirtual 137, 3) := by decide +kernel
theorem dX6_rule_155 : decode cX6_rule 155 = .ok (.iaload, 1) := by decide +kernel
theorem dX6_rule_156 : decode cX6_rule 156 = .ok (.dup2, 1) := by decide +kernel
theorem dX6_rule_157 : decode cX6_rule 157 = .ok (.iaload, 1) := by decide +kernel
theorem dX6_rule_158 : decode cX6_rule 158 = .ok (.iload_n 3, 1) := by decide +kernel
theorem dX6_rule_159 : decode cX6_rule 159 = .ok (.iadd, 1) := by decide +kernel
theorem dX6_rule_160 : decode cX6_rule 160 = .ok (.iastore, 1) := by decide +kernel
theorem dX6_rule_161 : decode cX6_rule 161 = .ok (.iload_n 3, 1) := by decide +kernel
theorem dX6_rule_162 : decode cX6_rule 162 = .ok (.ireturn, 1) := by decide +kernel
set_option maxRecDepth 20000 in
theorem ggX6_money_X6_isPerson : GoodIn wsX6_money wsX6_isPerson := goodIn_r _ [5, 6, 7, 4, 8] (by decide +kernel) (by decide +kernel)
set_option maxRecDepth 20000 in
theorem gX6_money_X6_isPerson : GoodIn wsX6_money (va_wsS RX6 85 yX6_isPerson wsX6_isPerson) := goodIn_app (goodIn_of _ (by decide +kernel)) ggX6_money_X6_isPerson
set_option maxRecDepth 20000 in
theorem ggX6_money_X6_refused : GoodIn wsX6_money wsX6_refused := goodIn_r _ [12, 13, 14, 15, 16, 17, 18, 19, 20, 21, 22, 23, 24, 25, 26, 27, 28, 29, 30, 31, 32, 33, 34, 35, 36, 37, 38, 39] (by decide +kernel) (by decide +kernel)
set_option maxRecDepth 20000 in
theorem gX6_money_X6_refused : GoodIn wsX6_money (wsV RX6 89 RX6 yX6_refused wsX6_refused) := goodIn_app (goodIn_of _ (by decide +kernel)) ggX6_money_X6_refused
theorem dX6_money_0 : decode cX6_money 0 = .ok (.aload_n 0, 1) := by decide +kernel
theorem dX6_money_1 : decode cX6_money 1 = .ok (.iload_n 1, 1) := by decide +kernel
theorem dX6_money_2 : decode cX6_money 2 = .ok (.invokestatic 85, 3) := by decide +kernel
theorem dX6_money_5 : decode cX6_money 5 = .ok (.ifCond .eq 7, 3) := by decide +kernel
theorem dX6_money_8 : decode cX6_money 8 = .ok (.iconst 0, 1) := by decide +kernel
theorem dX6_money_9 : decode cX6_money 9 = .ok (.goto 4, 3) := by decide +kernel
theorem dX6_money_12 : decode cX6_money 12 = .ok (.iconst 1, 1) := by decide +kernel
theorem dX6_money_13 : decode cX6_money 13 = .ok (.invokevirtual 89, 3) := by decide +kernel
theorem dX6_money_16 : decode cX6_money 16 = .ok (.ifCond .eq 7, 3) := by decide +kernel
theorem dX6_money_19 : decode cX6_money 19 = .ok (.iconst 0, 1) := by decide +kernel
theorem dX6_money_20 : decode cX6_money 20 = .ok (.goto 9, 3) := by decide +kernel
theorem dX6_money_23 : decode cX6_money 23 = .ok (.aload_n 0, 1) := by decide +kernel
theorem dX6_money_24 : decode cX6_money 24 = .ok (.getfield 44, 3) := by decide +kernel
theorem dX6_money_27 : decode cX6_money 27 = .ok (.iload_n 1, 1) := by decide +kernel
theorem dX6_money_28 : decode cX6_money 28 = .ok (.iaload, 1) := by decide +kernel
theorem dX6_money_29 : decode cX6_money 29 = .ok (.ireturn, 1) := by decide +kernel
set_option maxRecDepth 20000 in
theorem ggX6_lot_X6_in : GoodIn wsX6_lot wsX6_in := goodIn_r _ [9] (by decide +kernel) (by decide +kernel)
set_option maxRecDepth 20000 in
theorem gX6_lot_X6_in : GoodIn wsX6_lot (va_wsS RX6 72 yX6_in wsX6_in) := goodIn_app (goodIn_of _ (by decide +kernel)) ggX6_lot_X6_in
set_option maxRecDepth 20000 in
theorem ggX6_lot_X6_isPerson : GoodIn wsX6_lot wsX6_isPerson := goodIn_r _ [12, 6, 7, 8, 9] (by decide +kernel) (by decide +kernel)
set_option maxRecDepth 20000 in
theorem gX6_lot_X6_isPerson : GoodIn wsX6_lot (va_wsS RX6 85 yX6_isPerson wsX6_isPerson) := goodIn_app (goodIn_of _ (by decide +kernel)) ggX6_lot_X6_isPerson
set_option maxRecDepth 20000 in
theorem ggX6_lot_X6_refused : GoodIn wsX6_lot wsX6_refused := goodIn_r _ [16, 17, 18, 19, 20, 21, 22, 23, 24, 25, 26, 27, 28, 29, 30, 31, 32, 33, 34, 35, 36, 37, 38, 39, 40, 41, 42, 43] (by decide +kernel) (by decide +kernel)
set_option maxRecDepth 20000 in
theorem gX6_lot_X6_refused : GoodIn wsX6_lot (wsV RX6 89 RX6 yX6_refused wsX6_refused) := goodIn_app (goodIn_of _ (by decide +kernel)) ggX6_lot_X6_refused
theorem dX6_lot_0 : decode cX6_lot 0 = .ok (.iload_n 2, 1) := by decide +kernel
theorem dX6_lot_1 : decode cX6_lot 1 = .ok (.iconst 5, 1) := by decide +kernel
theorem dX6_lot_2 : decode cX6_lot 2 = .ok (.bipush 20, 2) := by decide +kernel
theorem dX6_lot_4 : decode cX6_lot 4 = .ok (.invokestatic 72, 3) := by decide +kernel
theorem dX6_lot_7 : decode cX6_lot 7 = .ok (.ifCond .eq 17, 3) := by decide +kernel
theorem dX6_lot_10 : decode cX6_lot 10 = .ok (.iload_n 3, 1) := by decide +kernel
theorem dX6_lot_11 : decode cX6_lot 11 = .ok (.iconst 1, 1) := by decide +kernel
theorem dX6_lot_12 : decode cX6_lot 12 = .ok (.ldc 152, 2) := by decide +kernel
theorem dX6_lot_14 : decode cX6_lot 14 = .ok (.invokestatic 72, 3) := by decide +kernel
theorem dX6_lot_17 : decode cX6_lot 17 = .ok (.ifCond .eq 7, 3) := by decide +kernel
theorem dX6_lot_20 : decode cX6_lot 20 = .ok (.iconst 1, 1) := by decide +kernel
theorem dX6_lot_21 : decode cX6_lot 21 = .ok (.goto 4, 3) := by decide +kernel
theorem dX6_lot_24 : decode cX6_lot 24 = .ok (.iconst 0, 1) := by decide +kernel
theorem dX6_lot_25 : decode cX6_lot 25 = .ok (.istore 4, 2) := by decide +kernel
theorem dX6_lot_27 : decode cX6_lot 27 = .ok (.aload_n 0, 1) := by decide +kernel
theorem dX6_lot_28 : decode cX6_lot 28 = .ok (.iload_n 1, 1) := by decide +kernel
theorem dX6_lot_29 : decode cX6_lot 29 = .ok (.invokestatic 85, 3) := by decide +kernel
theorem dX6_lot_32 : decode cX6_lot 32 = .ok (.ifCond .ne 7, 3) := by decide +kernel
theorem dX6_lot_35 : decode cX6_lot 35 = .ok (.iconst 1, 1) := by decide +kernel
theorem dX6_lot_36 : decode cX6_lot 36 = .ok (.goto 26, 3) := by decide +kernel
theorem dX6_lot_39 : decode cX6_lot 39 = .ok (.iload 4, 2) := by decide +kernel
theorem dX6_lot_41 : decode cX6_lot 41 = .ok (.ifCond .ne 7, 3) := by decide +kernel
theorem dX6_lot_44 : decode cX6_lot 44 = .ok (.iconst 2, 1) := by decide +kernel
theorem dX6_lot_45 : decode cX6_lot 45 = .ok (.goto 17, 3) := by decide +kernel
theorem dX6_lot_48 : decode cX6_lot 48 = .ok (.aload_n 0, 1) := by decide +kernel
theorem dX6_lot_49 : decode cX6_lot 49 = .ok (.getfield 79, 3) := by decide +kernel
theorem dX6_lot_52 : decode cX6_lot 52 = .ok (.bipush 20, 2) := by decide +kernel
theorem dX6_lot_54 : decode cX6_lot 54 = .ok (.if_icmp .ne 7, 3) := by decide +kernel
theorem dX6_lot_57 : decode cX6_lot 57 = .ok (.iconst 3, 1) := by decide +kernel
theorem dX6_lot_58 : decode cX6_lot 58 = .ok (.goto 4, 3) := by decide +kernel
theorem dX6_lot_61 : decode cX6_lot 61 = .ok (.iconst 0, 1) := by decide +kernel
theorem dX6_lot_62 : decode cX6_lot 62 = .ok (.invokevirtual 89, 3) := by decide +kernel
theorem dX6_lot_65 : decode cX6_lot 65 = .ok (.ifCond .eq 5, 3) := by decide +kernel
theorem dX6_lot_68 : decode cX6_lot 68 = .ok (.iconst 0, 1) := by decide +kernel
theorem dX6_lot_69 : decode cX6_lot 69 = .ok (.ireturn, 1) := by decide +kernel
theorem dX6_lot_70 : decode cX6_lot 70 = .ok (.aload_n 0, 1) := by decide +kernel
theorem dX6_lot_71 : decode cX6_lot 71 = .ok (.getfield 47, 3) := by decide +kernel
theorem dX6_lot_74 : decode cX6_lot 74 = .ok (.aload_n 0, 1) := by decide +kernel
theorem dX6_lot_75 : decode cX6_lot 75 = .ok (.getfield 79, 3) := by decide +kernel
theorem dX6_lot_78 : decode cX6_lot 78 = .ok (.iload_n 1, 1) := by decide +kernel
theorem dX6_lot_79 : decode cX6_lot 79 = .ok (.iastore, 1) := by decide +kernel
theorem dX6_lot_80 : decode cX6_lot 80 = .ok (.aload_n 0, 1) := by decide +kernel
theorem dX6_lot_81 : decode cX6_lot 81 = .ok (.getfield 50, 3) := by decide +kernel
theorem dX6_lot_84 : decode cX6_lot 84 = .ok (.aload_n 0, 1) := by decide +kernel
theorem dX6_lot_85 : decode cX6_lot 85 = .ok (.getfield 79, 3) := by decide +kernel
theorem dX6_lot_88 : decode cX6_lot 88 = .ok (.iload_n 2, 1) := by decide +kernel
theorem dX6_lot_89 : decode cX6_lot 89 = .ok (.iastore, 1) := by decide +kernel
theorem dX6_lot_90 : decode cX6_lot 90 = .ok (.aload_n 0, 1) := by decide +kernel
theorem dX6_lot_91 : decode cX6_lot 91 = .ok (.getfield 53, 3) := by decide +kernel
theorem dX6_lot_94 : decode cX6_lot 94 = .ok (.aload_n 0, 1) := by decide +kernel
theorem dX6_lot_95 : decode cX6_lot 95 = .ok (.getfield 79, 3) := by decide +kernel
theorem dX6_lot_98 : decode cX6_lot 98 = .ok (.iload_n 3, 1) := by decide +kernel
theorem dX6_lot_99 : decode cX6_lot 99 = .ok (.iastore, 1) := by decide +kernel
theorem dX6_lot_100 : decode cX6_lot 100 = .ok (.aload_n 0, 1) := by decide +kernel
theorem dX6_lot_101 : decode cX6_lot 101 = .ok (.dup, 1) := by decide +kernel
theorem dX6_lot_102 : decode cX6_lot 102 = .ok (.getfield 79, 3) := by decide +kernel
theorem dX6_lot_105 : decode cX6_lot 105 = .ok (.iconst 1, 1) := by decide +kernel
theorem dX6_lot_106 : decode cX6_lot 106 = .ok (.iadd, 1) := by decide +kernel
theorem dX6_lot_107 : decode cX6_lot 107 = .ok (.putfield 79, 3) := by decide +kernel
theorem dX6_lot_110 : decode cX6_lot 110 = .ok (.aload_n 0, 1) := by decide +kernel
theorem dX6_lot_111 : decode cX6_lot 111 = .ok (.getfield 79, 3) := by decide +kernel
theorem dX6_lot_114 : decode cX6_lot 114 = .ok (.iconst 1, 1) := by decide +kernel
theorem dX6_lot_115 : decode cX6_lot 115 = .ok (.isub, 1) := by decide +kernel
theorem dX6_lot_116 : decode cX6_lot 116 = .ok (.ireturn, 1) := by decide +kernel
set_option maxRecDepth 20000 in
theorem ggX6_swap_X6_isLot : GoodIn wsX6_swap wsX6_isLot := goodIn_r _ [6, 7, 8, 9, 5, 10, 16, 17, 18, 19, 20, 21, 22, 23, 24, 25, 26, 27, 28, 29, 30, 31, 32, 33, 34, 35, 36, 37, 38, 39, 40, 41] (by decide +kernel) (by decide +kernel)
set_option maxRecDepth 20000 in
theorem gX6_swap_X6_isLot : GoodIn wsX6_swap (wsV RX6 153 RX6 yX6_isLot wsX6_isLot) := goodIn_app (goodIn_of _ (by decide +kernel)) ggX6_swap_X6_isLot
set_option maxRecDepth 20000 in
theorem ggX6_swap_X6_refused : GoodIn wsX6_swap wsX6_refused := goodIn_r _ [14, 15, 16, 17, 18, 19, 20, 21, 22, 23, 24, 25, 26, 27, 28, 29, 30, 31, 32, 33, 34, 35, 36, 37, 38, 39, 40, 41] (by decide +kernel) (by decide +kernel)
set_option maxRecDepth 20000 in
theorem gX6_swap_X6_refused : GoodIn wsX6_swap (wsV RX6 89 RX6 yX6_refused wsX6_refused) := goodIn_app (goodIn_of _ (by decide +kernel)) ggX6_swap_X6_refused
theorem dX6_swap_0 : decode cX6_swap 0 = .ok (.aload_n 0, 1) := by decide +kernel
theorem dX6_swap_1 : decode cX6_swap 1 = .ok (.iload_n 1, 1) := by decide +kernel
theorem dX6_swap_2 : decode cX6_swap 2 = .ok (.invokevirtual 153, 3) := by decide +kernel
theorem dX6_swap_5 : decode cX6_swap 5 = .ok (.ifCond .eq 15, 3) := by decide +kernel
theorem dX6_swap_8 : decode cX6_swap 8 = .ok (.aload_n 0, 1) := by decide +kernel
theorem dX6_swap_9 : decode cX6_swap 9 = .ok (.iload_n 2, 1) := by decide +kernel
theorem dX6_swap_10 : decode cX6_swap 10 = .ok (.invokevirtual 153, 3) := by decide +kernel
theorem dX6_swap_13 : decode cX6_swap 13 = .ok (.ifCond .eq 7, 3) := by decide +kernel
theorem dX6_swap_16 : decode cX6_swap 16 = .ok (.iconst 1, 1) := by decide +kernel
theorem dX6_swap_17 : decode cX6_swap 17 = .ok (.goto 4, 3) := by decide +kernel
theorem dX6_swap_20 : decode cX6_swap 20 = .ok (.iconst 0, 1) := by decide +kernel
theorem dX6_swap_21 : decode cX6_swap 21 = .ok (.istore_n 3, 1) := by decide +kernel
theorem dX6_swap_22 : decode cX6_swap 22 = .ok (.aload_n 0, 1) := by decide +kernel
theorem dX6_swap_23 : decode cX6_swap 23 = .ok (.iload_n 3, 1) := by decide +kernel
theorem dX6_swap_24 : decode cX6_swap 24 = .ok (.ifCond .ne 7, 3) := by decide +kernel
theorem dX6_swap_27 : decode cX6_swap 27 = .ok (.iconst 1, 1) := by decide +kernel
theorem dX6_swap_28 : decode cX6_swap 28 = .ok (.goto 23, 3) := by decide +kernel
theorem dX6_swap_31 : decode cX6_swap 31 = .ok (.aload_n 0, 1) := by decide +kernel
theorem dX6_swap_32 : decode cX6_swap 32 = .ok (.getfield 47, 3) := by decide +kernel
theorem dX6_swap_35 : decode cX6_swap 35 = .ok (.iload_n 1, 1) := by decide +kernel
theorem dX6_swap_36 : decode cX6_swap 36 = .ok (.iaload, 1) := by decide +kernel
theorem dX6_swap_37 : decode cX6_swap 37 = .ok (.aload_n 0, 1) := by decide +kernel
theorem dX6_swap_38 : decode cX6_swap 38 = .ok (.getfield 47, 3) := by decide +kernel
theorem dX6_swap_41 : decode cX6_swap 41 = .ok (.iload_n 2, 1) := by decide +kernel
theorem dX6_swap_42 : decode cX6_swap 42 = .ok (.iaload, 1) := by decide +kernel
theorem dX6_swap_43 : decode cX6_swap 43 = .ok (.if_icmp .ne 7, 3) := by decide +kernel
theorem dX6_swap_46 : decode cX6_swap 46 = .ok (.iconst 2, 1) := by decide +kernel
theorem dX6_swap_47 : decode cX6_swap 47 = .ok (.goto 4, 3) := by decide +kernel
theorem dX6_swap_50 : decode cX6_swap 50 = .ok (.iconst 0, 1) := by decide +kernel
theorem dX6_swap_51 : decode cX6_swap 51 = .ok (.invokevirtual 89, 3) := by decide +kernel
theorem dX6_swap_54 : decode cX6_swap 54 = .ok (.ifCond .eq 5, 3) := by decide +kernel
theorem dX6_swap_57 : decode cX6_swap 57 = .ok (.iconst 0, 1) := by decide +kernel
theorem dX6_swap_58 : decode cX6_swap 58 = .ok (.ireturn, 1) := by decide +kernel
theorem dX6_swap_59 : decode cX6_swap 59 = .ok (.aload_n 0, 1) := by decide +kernel
theorem dX6_swap_60 : decode cX6_swap 60 = .ok (.getfield 47, 3) := by decide +kernel
theorem dX6_swap_63 : decode cX6_swap 63 = .ok (.iload_n 1, 1) := by decide +kernel
theorem dX6_swap_64 : decode cX6_swap 64 = .ok (.iaload, 1) := by decide +kernel
theorem dX6_swap_65 : decode cX6_swap 65 = .ok (.istore 4, 2) := by decide +kernel
theorem dX6_swap_67 : decode cX6_swap 67 = .ok (.aload_n 0, 1) := by decide +kernel
theorem dX6_swap_68 : decode cX6_swap 68 = .ok (.getfield 47, 3) := by decide +kernel
theorem dX6_swap_71 : decode cX6_swap 71 = .ok (.iload_n 1, 1) := by decide +kernel
theorem dX6_swap_72 : decode cX6_swap 72 = .ok (.aload_n 0, 1) := by decide +kernel
theorem dX6_swap_73 : decode cX6_swap 73 = .ok (.getfield 47, 3) := by decide +kernel
theorem dX6_swap_76 : decode cX6_swap 76 = .ok (.iload_n 2, 1) := by decide +kernel
theorem dX6_swap_77 : decode cX6_swap 77 = .ok (.iaload, 1) := by decide +kernel
theorem dX6_swap_78 : decode cX6_swap 78 = .ok (.iastore, 1) := by decide +kernel
theorem dX6_swap_79 : decode cX6_swap 79 = .ok (.aload_n 0, 1) := by decide +kernel
theorem dX6_swap_80 : decode cX6_swap 80 = .ok (.getfield 47, 3) := by decide +kernel
theorem dX6_swap_83 : decode cX6_swap 83 = .ok (.iload_n 2, 1) := by decide +kernel
theorem dX6_swap_84 : decode cX6_swap 84 = .ok (.iload 4, 2) := by decide +kernel
theorem dX6_swap_86 : decode cX6_swap 86 = .ok (.iastore, 1) := by decide +kernel
theorem dX6_swap_87 : decode cX6_swap 87 = .ok (.aload_n 0, 1) := by decide +kernel
theorem dX6_swap_88 : decode cX6_swap 88 = .ok (.getfield 47, 3) := by decide +kernel
theorem dX6_swap_91 : decode cX6_swap 91 = .ok (.iload_n 1, 1) := by decide +kernel
theorem dX6_swap_92 : decode cX6_swap 92 = .ok (.iaload, 1) := by decide +kernel
theorem dX6_swap_93 : decode cX6_swap 93 = .ok (.ireturn, 1) := by decide +kernel
set_option maxRecDepth 20000 in
theorem ggX6_left_X6_isLot : GoodIn wsX6_left wsX6_isLot := goodIn_r _ [6, 7, 8, 9, 5, 10, 16, 17, 18, 19, 20, 21, 22, 23, 24, 25, 26, 27, 28, 29, 30, 31, 32, 33, 34, 35, 36, 37, 38, 39, 40, 41] (by decide +kernel) (by decide +kernel)
set_option maxRecDepth 20000 in
theorem gX6_left_X6_isLot : GoodIn wsX6_left (wsV RX6 153 RX6 yX6_isLot wsX6_isLot) := goodIn_app (goodIn_of _ (by decide +kernel)) ggX6_left_X6_isLot
set_option maxRecDepth 20000 in
theorem ggX6_left_X6_refused : GoodIn wsX6_left wsX6_refused := goodIn_r _ [14, 15, 16, 17, 18, 19, 20, 21, 22, 23, 24, 25, 26, 27, 28, 29, 30, 31, 32, 33, 34, 35, 36, 37, 38, 39, 40, 41] (by decide +kernel) (by decide +kernel)
set_option maxRecDepth 20000 in
theorem gX6_left_X6_refused : GoodIn wsX6_left (wsV RX6 89 RX6 yX6_refused wsX6_refused) := goodIn_app (goodIn_of _ (by decide +kernel)) ggX6_left_X6_refused
theorem dX6_left_0 : decode cX6_left 0 = .ok (.aload_n 0, 1) := by decide +kernel
theorem dX6_left_1 : decode cX6_left 1 = .ok (.aload_n 0, 1) := by decide +kernel
theorem dX6_left_2 : decode cX6_left 2 = .ok (.iload_n 1, 1) := by decide +kernel
theorem dX6_left_3 : decode cX6_left 3 = .ok (.invokevirtual 153, 3) := by decide +kernel
theorem dX6_left_6 : decode cX6_left 6 = .ok (.ifCond .eq 7, 3) := by decide +kernel
theorem dX6_left_9 : decode cX6_left 9 = .ok (.iconst 0, 1) := by decide +kernel
theorem dX6_left_10 : decode cX6_left 10 = .ok (.goto 4, 3) := by decide +kernel
theorem dX6_left_13 : decode cX6_left 13 = .ok (.iconst 1, 1) := by decide +kernel
theorem dX6_left_14 : decode cX6_left 14 = .ok (.invokevirtual 89, 3) := by decide +kernel
theorem dX6_left_17 : decode cX6_left 17 = .ok (.ifCond .eq 7, 3) := by decide +kernel
theorem dX6_left_20 : decode cX6_left 20 = .ok (.iconst 0, 1) := by decide +kernel
theorem dX6_left_21 : decode cX6_left 21 = .ok (.goto 9, 3) := by decide +kernel
theorem dX6_left_24 : decode cX6_left 24 = .ok (.aload_n 0, 1) := by decide +kernel
theorem dX6_left_25 : decode cX6_left 25 = .ok (.getfield 53, 3) := by decide +kernel
theorem dX6_left_28 : decode cX6_left 28 = .ok (.iload_n 1, 1) := by decide +kernel
theorem dX6_left_29 : decode cX6_left 29 = .ok (.iaload, 1) := by decide +kernel
theorem dX6_left_30 : decode cX6_left 30 = .ok (.ireturn, 1) := by decide +kernel
set_option maxRecDepth 20000 in
theorem ggX6_project_X6_isPerson : GoodIn wsX6_project wsX6_isPerson := goodIn_r _ [10, 11, 12, 9, 13] (by decide +kernel) (by decide +kernel)
set_option maxRecDepth 20000 in
theorem gX6_project_X6_isPerson : GoodIn wsX6_project (va_wsS RX6 85 yX6_isPerson wsX6_isPerson) := goodIn_app (goodIn_of _ (by decide +kernel)) ggX6_project_X6_isPerson
set_option maxRecDepth 20000 in
theorem ggX6_project_X6_isPattern : GoodIn wsX6_project wsX6_isPattern := goodIn_r _ [17, 18, 11, 12, 9, 13, 39, 40, 41, 42, 43, 44, 45, 46, 47, 48, 49, 50, 51, 52, 53, 54, 55, 56, 57, 58, 59, 60, 61, 62, 63, 64] (by decide +kernel) (by decide +kernel)
set_option maxRecDepth 20000 in
theorem gX6_project_X6_isPattern : GoodIn wsX6_project (wsV RX6 96 RX6 yX6_isPattern wsX6_isPattern) := goodIn_app (goodIn_of _ (by decide +kernel)) ggX6_project_X6_isPattern
set_option maxRecDepth 20000 in
theorem ggX6_project_X6_isLot : GoodIn wsX6_project wsX6_isLot := goodIn_r _ [22, 23, 11, 12, 9, 13, 39, 40, 41, 42, 43, 44, 45, 46, 47, 48, 49, 50, 51, 52, 53, 54, 55, 56, 57, 58, 59, 60, 61, 62, 63, 64] (by decide +kernel) (by decide +kernel)
set_option maxRecDepth 20000 in
theorem gX6_project_X6_isLot : GoodIn wsX6_project (wsV RX6 153 RX6 yX6_isLot wsX6_isLot) := goodIn_app (goodIn_of _ (by decide +kernel)) ggX6_project_X6_isLot
set_option maxRecDepth 20000 in
theorem ggX6_project_X6_isPublished : GoodIn wsX6_project wsX6_isPublished := goodIn_r _ [27, 28, 39, 40, 41, 42, 43, 44, 45, 46, 47, 48, 49, 50, 51, 52, 53, 54, 55, 56, 57, 58, 59, 60, 61, 62, 63, 64] (by decide +kernel) (by decide +kernel)
set_option maxRecDepth 20000 in
theorem gX6_project_X6_isPublished : GoodIn wsX6_project (wsV RX6 99 RX6 yX6_isPublished wsX6_isPublished) := goodIn_app (goodIn_of _ (by decide +kernel)) ggX6_project_X6_isPublished
set_option maxRecDepth 20000 in
theorem ggX6_project_X6_hasBought : GoodIn wsX6_project wsX6_hasBought := goodIn_r _ [32, 33, 39, 40, 41, 42, 43, 44, 45, 46, 47, 48, 49, 50, 51, 52, 53, 54, 55, 56, 57, 58, 59, 60, 61, 62, 63, 64] (by decide +kernel) (by decide +kernel)
set_option maxRecDepth 20000 in
theorem gX6_project_X6_hasBought : GoodIn wsX6_project (wsV RX6 149 RX6 yX6_hasBought wsX6_hasBought) := goodIn_app (goodIn_of _ (by decide +kernel)) ggX6_project_X6_hasBought
set_option maxRecDepth 20000 in
theorem ggX6_project_X6_refused : GoodIn wsX6_project wsX6_refused := goodIn_r _ [37, 38, 39, 40, 41, 42, 43, 44, 45, 46, 47, 48, 49, 50, 51, 52, 53, 54, 55, 56, 57, 58, 59, 60, 61, 62, 63, 64] (by decide +kernel) (by decide +kernel)
set_option maxRecDepth 20000 in
theorem gX6_project_X6_refused : GoodIn wsX6_project (wsV RX6 89 RX6 yX6_refused wsX6_refused) := goodIn_app (goodIn_of _ (by decide +kernel)) ggX6_project_X6_refused
theorem dX6_project_0 : decode cX6_project 0 = .ok (.iload_n 1, 1) := by decide +kernel
theorem dX6_project_1 : decode cX6_project 1 = .ok (.invokestatic 85, 3) := by decide +kernel
theorem dX6_project_4 : decode cX6_project 4 = .ok (.ifCond .eq 23, 3) := by decide +kernel
theorem dX6_project_7 : decode cX6_project 7 = .ok (.aload_n 0, 1) := by decide +kernel
theorem dX6_project_8 : decode cX6_project 8 = .ok (.iload_n 2, 1) := by decide +kernel
theorem dX6_project_9 : decode cX6_project 9 = .ok (.invokevirtual 96, 3) := by decide +kernel
theorem dX6_project_12 : decode cX6_project 12 = .ok (.ifCond .eq 15, 3) := by decide +kernel
theorem dX6_project_15 : decode cX6_project 15 = .ok (.aload_n 0, 1) := by decide +kernel
theorem dX6_project_16 : decode cX6_project 16 = .ok (.iload_n 3, 1) := by decide +kernel
theorem dX6_project_17 : decode cX6_project 17 = .ok (.invokevirtual 153, 3) := by decide +kernel
theorem dX6_project_20 : decode cX6_project 20 = .ok (.ifCond .eq 7, 3) := by decide +kernel
theorem dX6_project_23 : decode cX6_project 23 = .ok (.iconst 1, 1) := by decide +kernel
theorem dX6_project_24 : decode cX6_project 24 = .ok (.goto 4, 3) := by decide +kernel
theorem dX6_project_27 : decode cX6_project 27 = .ok (.iconst 0, 1) := by decide +kernel
theorem dX6_project_28 : decode cX6_project 28 = .ok (.istore 4, 2) := by decide +kernel
theorem dX6_project_30 : decode cX6_project 30 = .ok (.iload 4, 2) := by decide +kernel
theorem dX6_project_32 : decode cX6_project 32 = .ok (.ifCond .eq 53, 3) := by decide +kernel
theorem dX6_project_35 : decode cX6_project 35 = .ok (.aload_n 0, 1) := by decide +kernel
theorem dX6_project_36 : decode cX6_project 36 = .ok (.iload_n 2, 1) := by decide +kernel
theorem dX6_project_37 : decode cX6_project 37 = .ok (.invokevirtual 99, 3) := by decide +kernel
theorem dX6_project_40 : decode cX6_project 40 = .ok (.ifCond .eq 45, 3) := by decide +kernel
theorem dX6_project_43 : decode cX6_project 43 = .ok (.aload_n 0, 1) := by decide +kernel
theorem dX6_project_44 : decode cX6_project 44 = .ok (.getfield 7, 3) := by decide +kernel
theorem dX6_project_47 : decode cX6_project 47 = .ok (.iload_n 2, 1) := by decide +kernel
theorem dX6_project_48 : decode cX6_project 48 = .ok (.iaload, 1) := by decide +kernel
theorem dX6_project_49 : decode cX6_project 49 = .ok (.iload_n 1, 1) := by decide +kernel
theorem dX6_project_50 : decode cX6_project 50 = .ok (.if_icmp .eq 12, 3) := by decide +kernel
theorem dX6_project_53 : decode cX6_project 53 = .ok (.aload_n 0, 1) := by decide +kernel
theorem dX6_project_54 : decode cX6_project 54 = .ok (.iload_n 2, 1) := by decide +kernel
theorem dX6_project_55 : decode cX6_project 55 = .ok (.iload_n 1, 1) := by decide +kernel
theorem dX6_project_56 : decode cX6_project 56 = .ok (.invokevirtual 149, 3) := by decide +kernel
theorem dX6_project_59 : decode cX6_project 59 = .ok (.ifCond .eq 26, 3) := by decide +kernel
theorem dX6_project_62 : decode cX6_project 62 = .ok (.aload_n 0, 1) := by decide +kernel
theorem dX6_project_63 : decode cX6_project 63 = .ok (.getfield 47, 3) := by decide +kernel
theorem dX6_project_66 : decode cX6_project 66 = .ok (.iload_n 3, 1) := by decide +kernel
theorem dX6_project_67 : decode cX6_project 67 = .ok (.iaload, 1) := by decide +kernel
theorem dX6_project_68 : decode cX6_project 68 = .ok (.iload_n 1, 1) := by decide +kernel
theorem dX6_project_69 : decode cX6_project 69 = .ok (.if_icmp .ne 16, 3) := by decide +kernel
theorem dX6_project_72 : decode cX6_project 72 = .ok (.aload_n 0, 1) := by decide +kernel
theorem dX6_project_73 : decode cX6_project 73 = .ok (.getfield 82, 3) := by decide +kernel
theorem dX6_project_76 : decode cX6_project 76 = .ok (.bipush 12, 2) := by decide +kernel
theorem dX6_project_78 : decode cX6_project 78 = .ok (.if_icmp .ge 7, 3) := by decide +kernel
theorem dX6_project_81 : decode cX6_project 81 = .ok (.iconst 1, 1) := by decide +kernel
theorem dX6_project_82 : decode cX6_project 82 = .ok (.goto 4, 3) := by decide +kernel
theorem dX6_project_85 : decode cX6_project 85 = .ok (.iconst 0, 1) := by decide +kernel
theorem dX6_project_86 : decode cX6_project 86 = .ok (.istore 5, 2) := by decide +kernel
theorem dX6_project_88 : decode cX6_project 88 = .ok (.aload_n 0, 1) := by decide +kernel
theorem dX6_project_89 : decode cX6_project 89 = .ok (.iload 4, 2) := by decide +kernel
theorem dX6_project_91 : decode cX6_project 91 = .ok (.ifCond .ne 7, 3) := by decide +kernel
theorem dX6_project_94 : decode cX6_project 94 = .ok (.iconst 1, 1) := by decide +kernel
theorem dX6_project_95 : decode cX6_project 95 = .ok (.goto 13, 3) := by decide +kernel
theorem dX6_project_98 : decode cX6_project 98 = .ok (.iload 5, 2) := by decide +kernel
theorem dX6_project_100 : decode cX6_project 100 = .ok (.ifCond .eq 7, 3) := by decide +kernel
theorem dX6_project_103 : decode cX6_project 103 = .ok (.iconst 0, 1) := by decide +kernel
theorem dX6_project_104 : decode cX6_project 104 = .ok (.goto 4, 3) := by decide +kernel
theorem dX6_project_107 : decode cX6_project 107 = .ok (.iconst 2, 1) := by decide +kernel
theorem dX6_project_108 : decode cX6_project 108 = .ok (.invokevirtual 89, 3) := by decide +kernel
theorem dX6_project_111 : decode cX6_project 111 = .ok (.ifCond .eq 5, 3) := by decide +kernel
theorem dX6_project_114 : decode cX6_project 114 = .ok (.iconst 0, 1) := by decide +kernel
theorem dX6_project_115 : decode cX6_project 115 = .ok (.ireturn, 1) := by decide +kernel
theorem dX6_project_116 : decode cX6_project 116 = .ok (.aload_n 0, 1) := by decide +kernel
theorem dX6_project_117 : decode cX6_project 117 = .ok (.getfield 56, 3) := by decide +kernel
theorem dX6_project_120 : decode cX6_project 120 = .ok (.aload_n 0, 1) := by decide +kernel
theorem dX6_project_121 : decode cX6_project 121 = .ok (.getfield 82, 3) := by decide +kernel
theorem dX6_project_124 : decode cX6_project 124 = .ok (.iload_n 1, 1) := by decide +kernel
theorem dX6_project_125 : decode cX6_project 125 = .ok (.iastore, 1) := by decide +kernel
theorem dX6_project_126 : decode cX6_project 126 = .ok (.aload_n 0, 1) := by decide +kernel
theorem dX6_project_127 : decode cX6_project 127 = .ok (.getfield 59, 3) := by decide +kernel
theorem dX6_project_130 : decode cX6_project 130 = .ok (.aload_n 0, 1) := by decide +kernel
theorem dX6_project_131 : decode cX6_project 131 = .ok (.getfield 82, 3) := by decide +kernel
theorem dX6_project_134 : decode cX6_project 134 = .ok (.iload_n 2, 1) := by decide +kernel
theorem dX6_project_135 : decode cX6_project 135 = .ok (.iastore, 1) := by decide +kernel
theorem dX6_project_136 : decode cX6_project 136 = .ok (.aload_n 0, 1) := by decide +kernel
theorem dX6_project_137 : decode cX6_project 137 = .ok (.getfield 62, 3) := by decide +kernel
theorem dX6_project_140 : decode cX6_project 140 = .ok (.aload_n 0, 1) := by decide +kernel
theorem dX6_project_141 : decode cX6_project 141 = .ok (.getfield 82, 3) := by decide +kernel
theorem dX6_project_144 : decode cX6_project 144 = .ok (.iload_n 3, 1) := by decide +kernel
theorem dX6_project_145 : decode cX6_project 145 = .ok (.iastore, 1) := by decide +kernel
theorem dX6_project_146 : decode cX6_project 146 = .ok (.aload_n 0, 1) := by decide +kernel
theorem dX6_project_147 : decode cX6_project 147 = .ok (.dup, 1) := by decide +kernel
theorem dX6_project_148 : decode cX6_project 148 = .ok (.getfield 82, 3) := by decide +kernel
theorem dX6_project_151 : decode cX6_project 151 = .ok (.iconst 1, 1) := by decide +kernel
theorem dX6_project_152 : decode cX6_project 152 = .ok (.iadd, 1) := by decide +kernel
theorem dX6_project_153 : decode cX6_project 153 = .ok (.putfield 82, 3) := by decide +kernel
theorem dX6_project_156 : decode cX6_project 156 = .ok (.aload_n 0, 1) := by decide +kernel
theorem dX6_project_157 : decode cX6_project 157 = .ok (.getfield 82, 3) := by decide +kernel
theorem dX6_project_160 : decode cX6_project 160 = .ok (.iconst 1, 1) := by decide +kernel
theorem dX6_project_161 : decode cX6_project 161 = .ok (.isub, 1) := by decide +kernel
theorem dX6_project_162 : decode cX6_project 162 = .ok (.ireturn, 1) := by decide +kernel
set_option maxRecDepth 20000 in
theorem ggX6_take_X6_isProject : GoodIn wsX6_take wsX6_isProject := goodIn_r _ [8, 9, 10, 11, 7, 12, 23, 24, 25, 26, 27, 28, 29, 30, 31, 32, 33, 34, 35, 36, 37, 38, 39, 40, 41, 42, 43, 44, 45, 46, 47, 48] (by decide +kernel) (by decide +kernel)
set_option maxRecDepth 20000 in
theorem gX6_take_X6_isProject : GoodIn wsX6_take (wsV RX6 156 RX6 yX6_isProject wsX6_isProject) := goodIn_app (goodIn_of _ (by decide +kernel)) ggX6_take_X6_isProject
set_option maxRecDepth 20000 in
theorem ggX6_take_X6_isLot : GoodIn wsX6_take wsX6_isLot := goodIn_r _ [16, 17, 10, 11, 7, 12, 23, 24, 25, 26, 27, 28, 29, 30, 31, 32, 33, 34, 35, 36, 37, 38, 39, 40, 41, 42, 43, 44, 45, 46, 47, 48] (by decide +kernel) (by decide +kernel)
set_option maxRecDepth 20000 in
theorem gX6_take_X6_isLot : GoodIn wsX6_take (wsV RX6 153 RX6 yX6_isLot wsX6_isLot) := goodIn_app (goodIn_of _ (by decide +kernel)) ggX6_take_X6_isLot
set_option maxRecDepth 20000 in
theorem ggX6_take_X6_refused : GoodIn wsX6_take wsX6_refused := goodIn_r _ [21, 22, 23, 24, 25, 26, 27, 28, 29, 30, 31, 32, 33, 34, 35, 36, 37, 38, 39, 40, 41, 42, 43, 44, 45, 46, 47, 48] (by decide +kernel) (by decide +kernel)
set_option maxRecDepth 20000 in
theorem gX6_take_X6_refused : GoodIn wsX6_take (wsV RX6 89 RX6 yX6_refused wsX6_refused) := goodIn_app (goodIn_of _ (by decide +kernel)) ggX6_take_X6_refused
theorem dX6_take_0 : decode cX6_take 0 = .ok (.aload_n 0, 1) := by decide +kernel
theorem dX6_take_1 : decode cX6_take 1 = .ok (.iload_n 1, 1) := by decide +kernel
theorem dX6_take_2 : decode cX6_take 2 = .ok (.invokevirtual 156, 3) := by decide +kernel
theorem dX6_take_5 : decode cX6_take 5 = .ok (.ifCond .eq 15, 3) := by decide +kernel
theorem dX6_take_8 : decode cX6_take 8 = .ok (.aload_n 0, 1) := by decide +kernel
theorem dX6_take_9 : decode cX6_take 9 = .ok (.iload_n 2, 1) := by decide +kernel
theorem dX6_take_10 : decode cX6_take 10 = .ok (.invokevirtual 153, 3) := by decide +kernel
theorem dX6_take_13 : decode cX6_take 13 = .ok (.ifCond .eq 7, 3) := by decide +kernel
theorem dX6_take_16 : decode cX6_take 16 = .ok (.iconst 1, 1) := by decide +kernel
theorem dX6_take_17 : decode cX6_take 17 = .ok (.goto 4, 3) := by decide +kernel
theorem dX6_take_20 : decode cX6_take 20 = .ok (.iconst 0, 1) := by decide +kernel
theorem dX6_take_21 : decode cX6_take 21 = .ok (.istore_n 3, 1) := by decide +kernel
theorem dX6_take_22 : decode cX6_take 22 = .ok (.aload_n 0, 1) := by decide +kernel
theorem dX6_take_23 : decode cX6_take 23 = .ok (.iload_n 3, 1) := by decide +kernel
theorem dX6_take_24 : decode cX6_take 24 = .ok (.ifCond .ne 7, 3) := by decide +kernel
theorem dX6_take_27 : decode cX6_take 27 = .ok (.iconst 1, 1) := by decide +kernel
theorem dX6_take_28 : decode cX6_take 28 = .ok (.goto 23, 3) := by decide +kernel
theorem dX6_take_31 : decode cX6_take 31 = .ok (.aload_n 0, 1) := by decide +kernel
theorem dX6_take_32 : decode cX6_take 32 = .ok (.getfield 47, 3) := by decide +kernel
theorem dX6_take_35 : decode cX6_take 35 = .ok (.iload_n 2, 1) := by decide +kernel
theorem dX6_take_36 : decode cX6_take 36 = .ok (.iaload, 1) := by decide +kernel
theorem dX6_take_37 : decode cX6_take 37 = .ok (.aload_n 0, 1) := by decide +kernel
theorem dX6_take_38 : decode cX6_take 38 = .ok (.getfield 56, 3) := by decide +kernel
theorem dX6_take_41 : decode cX6_take 41 = .ok (.iload_n 1, 1) := by decide +kernel
theorem dX6_take_42 : decode cX6_take 42 = .ok (.iaload, 1) := by decide +kernel
theorem dX6_take_43 : decode cX6_take 43 = .ok (.if_icmp .ne 7, 3) := by decide +kernel
theorem dX6_take_46 : decode cX6_take 46 = .ok (.iconst 0, 1) := by decide +kernel
theorem dX6_take_47 : decode cX6_take 47 = .ok (.goto 4, 3) := by decide +kernel
theorem dX6_take_50 : decode cX6_take 50 = .ok (.iconst 2, 1) := by decide +kernel
theorem dX6_take_51 : decode cX6_take 51 = .ok (.invokevirtual 89, 3) := by decide +kernel
theorem dX6_take_54 : decode cX6_take 54 = .ok (.ifCond .eq 5, 3) := by decide +kernel
theorem dX6_take_57 : decode cX6_take 57 = .ok (.iconst 0, 1) := by decide +kernel
theorem dX6_take_58 : decode cX6_take 58 = .ok (.ireturn, 1) := by decide +kernel
theorem dX6_take_59 : decode cX6_take 59 = .ok (.aload_n 0, 1) := by decide +kernel
theorem dX6_take_60 : decode cX6_take 60 = .ok (.getfield 62, 3) := by decide +kernel
theorem dX6_take_63 : decode cX6_take 63 = .ok (.iload_n 1, 1) := by decide +kernel
theorem dX6_take_64 : decode cX6_take 64 = .ok (.iaload, 1) := by decide +kernel
theorem dX6_take_65 : decode cX6_take 65 = .ok (.istore 4, 2) := by decide +kernel
theorem dX6_take_67 : decode cX6_take 67 = .ok (.aload_n 0, 1) := by decide +kernel
theorem dX6_take_68 : decode cX6_take 68 = .ok (.getfield 62, 3) := by decide +kernel
theorem dX6_take_71 : decode cX6_take 71 = .ok (.iload_n 1, 1) := by decide +kernel
theorem dX6_take_72 : decode cX6_take 72 = .ok (.iload_n 2, 1) := by decide +kernel
theorem dX6_take_73 : decode cX6_take 73 = .ok (.iastore, 1) := by decide +kernel
theorem dX6_take_74 : decode cX6_take 74 = .ok (.iload 4, 2) := by decide +kernel
theorem dX6_take_76 : decode cX6_take 76 = .ok (.ireturn, 1) := by decide +kernel
set_option maxRecDepth 20000 in
theorem ggX6_knitsRow_X6_rowsOf : GoodIn wsX6_knitsRow wsX6_rowsOf := goodIn_r _ [12, 13, 14, 33, 34, 35, 36, 37, 38, 39, 40, 41, 42, 43, 44, 45, 46, 47, 48, 49, 50, 51, 52, 53, 54, 55, 56, 57, 58] (by decide +kernel) (by decide +kernel)
set_option maxRecDepth 20000 in
theorem gX6_knitsRow_X6_rowsOf : GoodIn wsX6_knitsRow (wsV RX6 102 RX6 yX6_rowsOf wsX6_rowsOf) := goodIn_app (goodIn_of _ (by decide +kernel)) ggX6_knitsRow_X6_rowsOf
set_option maxRecDepth 20000 in
theorem ggX6_knitsRow_X6_rowNeed : GoodIn wsX6_knitsRow wsX6_rowNeed := goodIn_r _ [18, 19, 20, 21, 22, 11, 23, 24, 25, 14, 26, 27, 28, 29, 30, 31, 32, 33, 34, 35, 36, 37, 38, 39, 40, 41, 42, 43, 44, 45, 46, 47, 48, 49, 50, 51, 52, 53, 54, 55, 56, 57, 58] (by decide +kernel) (by decide +kernel)
set_option maxRecDepth 20000 in
theorem gX6_knitsRow_X6_rowNeed : GoodIn wsX6_knitsRow (wsV RX6 146 RX6 yX6_rowNeed wsX6_rowNeed) := goodIn_app (goodIn_of _ (by decide +kernel)) ggX6_knitsRow_X6_rowNeed
theorem dX6_knitsRow_0 : decode cX6_knitsRow 0 = .ok (.aload_n 0, 1) := by decide +kernel
theorem dX6_knitsRow_1 : decode cX6_knitsRow 1 = .ok (.getfield 59, 3) := by decide +kernel
theorem dX6_knitsRow_4 : decode cX6_knitsRow 4 = .ok (.iload_n 1, 1) := by decide +kernel
theorem dX6_knitsRow_5 : decode cX6_knitsRow 5 = .ok (.iaload, 1) := by decide +kernel
theorem dX6_knitsRow_6 : decode cX6_knitsRow 6 = .ok (.istore_n 2, 1) := by decide +kernel
theorem dX6_knitsRow_7 : decode cX6_knitsRow 7 = .ok (.aload_n 0, 1) := by decide +kernel
theorem dX6_knitsRow_8 : decode cX6_knitsRow 8 = .ok (.getfield 62, 3) := by decide +kernel
theorem dX6_knitsRow_11 : decode cX6_knitsRow 11 = .ok (.iload_n 1, 1) := by decide +kernel
theorem dX6_knitsRow_12 : decode cX6_knitsRow 12 = .ok (.iaload, 1) := by decide +kernel
theorem dX6_knitsRow_13 : decode cX6_knitsRow 13 = .ok (.istore_n 3, 1) := by decide +kernel
theorem dX6_knitsRow_14 : decode cX6_knitsRow 14 = .ok (.aload_n 0, 1) := by decide +kernel
theorem dX6_knitsRow_15 : decode cX6_knitsRow 15 = .ok (.getfield 47, 3) := by decide +kernel
theorem dX6_knitsRow_18 : decode cX6_knitsRow 18 = .ok (.iload_n 3, 1) := by decide +kernel
theorem dX6_knitsRow_19 : decode cX6_knitsRow 19 = .ok (.iaload, 1) := by decide +kernel
theorem dX6_knitsRow_20 : decode cX6_knitsRow 20 = .ok (.aload_n 0, 1) := by decide +kernel
theorem dX6_knitsRow_21 : decode cX6_knitsRow 21 = .ok (.getfield 56, 3) := by decide +kernel
theorem dX6_knitsRow_24 : decode cX6_knitsRow 24 = .ok (.iload_n 1, 1) := by decide +kernel
theorem dX6_knitsRow_25 : decode cX6_knitsRow 25 = .ok (.iaload, 1) := by decide +kernel
theorem dX6_knitsRow_26 : decode cX6_knitsRow 26 = .ok (.if_icmp .ne 17, 3) := by decide +kernel
theorem dX6_knitsRow_29 : decode cX6_knitsRow 29 = .ok (.aload_n 0, 1) := by decide +kernel
theorem dX6_knitsRow_30 : decode cX6_knitsRow 30 = .ok (.getfield 65, 3) := by decide +kernel
theorem dX6_knitsRow_33 : decode cX6_knitsRow 33 = .ok (.iload_n 1, 1) := by decide +kernel
theorem dX6_knitsRow_34 : decode cX6_knitsRow 34 = .ok (.iaload, 1) := by decide +kernel
theorem dX6_knitsRow_35 : decode cX6_knitsRow 35 = .ok (.aload_n 0, 1) := by decide +kernel
theorem dX6_knitsRow_36 : decode cX6_knitsRow 36 = .ok (.iload_n 2, 1) := by decide +kernel
theorem dX6_knitsRow_37 : decode cX6_knitsRow 37 = .ok (.invokevirtual 102, 3) := by decide +kernel
theorem dX6_knitsRow_40 : decode cX6_knitsRow 40 = .ok (.if_icmp .ne 5, 3) := by decide +kernel
theorem dX6_knitsRow_43 : decode cX6_knitsRow 43 = .ok (.iconst 0, 1) := by decide +kernel
theorem dX6_knitsRow_44 : decode cX6_knitsRow 44 = .ok (.ireturn, 1) := by decide +kernel
theorem dX6_knitsRow_45 : decode cX6_knitsRow 45 = .ok (.aload_n 0, 1) := by decide +kernel
theorem dX6_knitsRow_46 : decode cX6_knitsRow 46 = .ok (.iload_n 2, 1) := by decide +kernel
theorem dX6_knitsRow_47 : decode cX6_knitsRow 47 = .ok (.aload_n 0, 1) := by decide +kernel
theorem dX6_knitsRow_48 : decode cX6_knitsRow 48 = .ok (.getfield 65, 3) := by decide +kernel
theorem dX6_knitsRow_51 : decode cX6_knitsRow 51 = .ok (.iload_n 1, 1) := by decide +kernel
theorem dX6_knitsRow_52 : decode cX6_knitsRow 52 = .ok (.iaload, 1) := by decide +kernel
theorem dX6_knitsRow_53 : decode cX6_knitsRow 53 = .ok (.aload_n 0, 1) := by decide +kernel
theorem dX6_knitsRow_54 : decode cX6_knitsRow 54 = .ok (.getfield 50, 3) := by decide +kernel
theorem dX6_knitsRow_57 : decode cX6_knitsRow 57 = .ok (.iload_n 3, 1) := by decide +kernel
theorem dX6_knitsRow_58 : decode cX6_knitsRow 58 = .ok (.iaload, 1) := by decide +kernel
theorem dX6_knitsRow_59 : decode cX6_knitsRow 59 = .ok (.invokevirtual 146, 3) := by decide +kernel
theorem dX6_knitsRow_62 : decode cX6_knitsRow 62 = .ok (.istore 4, 2) := by decide +kernel
theorem dX6_knitsRow_64 : decode cX6_knitsRow 64 = .ok (.iload 4, 2) := by decide +kernel
theorem dX6_knitsRow_66 : decode cX6_knitsRow 66 = .ok (.aload_n 0, 1) := by decide +kernel
theorem dX6_knitsRow_67 : decode cX6_knitsRow 67 = .ok (.getfield 53, 3) := by decide +kernel
theorem dX6_knitsRow_70 : decode cX6_knitsRow 70 = .ok (.iload_n 3, 1) := by decide +kernel
theorem dX6_knitsRow_71 : decode cX6_knitsRow 71 = .ok (.iaload, 1) := by decide +kernel
theorem dX6_knitsRow_72 : decode cX6_knitsRow 72 = .ok (.if_icmp .gt 7, 3) := by decide +kernel
theorem dX6_knitsRow_75 : decode cX6_knitsRow 75 = .ok (.iconst 1, 1) := by decide +kernel
theorem dX6_knitsRow_76 : decode cX6_knitsRow 76 = .ok (.goto 4, 3) := by decide +kernel
theorem dX6_knitsRow_79 : decode cX6_knitsRow 79 = .ok (.iconst 0, 1) := by decide +kernel
theorem dX6_knitsRow_80 : decode cX6_knitsRow 80 = .ok (.istore 5, 2) := by decide +kernel
theorem dX6_knitsRow_82 : decode cX6_knitsRow 82 = .ok (.aload_n 0, 1) := by decide +kernel
theorem dX6_knitsRow_83 : decode cX6_knitsRow 83 = .ok (.getfield 53, 3) := by decide +kernel
theorem dX6_knitsRow_86 : decode cX6_knitsRow 86 = .ok (.iload_n 3, 1) := by decide +kernel
theorem dX6_knitsRow_87 : decode cX6_knitsRow 87 = .ok (.dup2, 1) := by decide +kernel
theorem dX6_knitsRow_88 : decode cX6_knitsRow 88 = .ok (.iaload, 1) := by decide +kernel
theorem dX6_knitsRow_89 : decode cX6_knitsRow 89 = .ok (.iload 5, 2) := by decide +kernel
theorem dX6_knitsRow_91 : decode cX6_knitsRow 91 = .ok (.ifCond .eq 8, 3) := by decide +kernel
theorem dX6_knitsRow_94 : decode cX6_knitsRow 94 = .ok (.iload 4, 2) := by decide +kernel
theorem dX6_knitsRow_96 : decode cX6_knitsRow 96 = .ok (.goto 4, 3) := by decide +kernel
theorem dX6_knitsRow_99 : decode cX6_knitsRow 99 = .ok (.iconst 0, 1) := by decide +kernel
theorem dX6_knitsRow_100 : decode cX6_knitsRow 100 = .ok (.isub, 1) := by decide +kernel
theorem dX6_knitsRow_101 : decode cX6_knitsRow 101 = .ok (.iastore, 1) := by decide +kernel
theorem dX6_knitsRow_102 : decode cX6_knitsRow 102 = .ok (.aload_n 0, 1) := by decide +kernel
theorem dX6_knitsRow_103 : decode cX6_knitsRow 103 = .ok (.getfield 65, 3) := by decide +kernel
theorem dX6_knitsRow_106 : decode cX6_knitsRow 106 = .ok (.iload_n 1, 1) := by decide +kernel
theorem dX6_knitsRow_107 : decode cX6_knitsRow 107 = .ok (.dup2, 1) := by decide +kernel
theorem dX6_knitsRow_108 : decode cX6_knitsRow 108 = .ok (.iaload, 1) := by decide +kernel
theorem dX6_knitsRow_109 : decode cX6_knitsRow 109 = .ok (.iload 5, 2) := by decide +kernel
theorem dX6_knitsRow_111 : decode cX6_knitsRow 111 = .ok (.ifCond .eq 7, 3) := by decide +kernel
theorem dX6_knitsRow_114 : decode cX6_knitsRow 114 = .ok (.iconst 1, 1) := by decide +kernel
theorem dX6_knitsRow_115 : decode cX6_knitsRow 115 = .ok (.goto 4, 3) := by decide +kernel
theorem dX6_knitsRow_118 : decode cX6_knitsRow 118 = .ok (.iconst 0, 1) := by decide +kernel
theorem dX6_knitsRow_119 : decode cX6_knitsRow 119 = .ok (.iadd, 1) := by decide +kernel
theorem dX6_knitsRow_120 : decode cX6_knitsRow 120 = .ok (.iastore, 1) := by decide +kernel
theorem dX6_knitsRow_121 : decode cX6_knitsRow 121 = .ok (.iload 5, 2) := by decide +kernel
theorem dX6_knitsRow_123 : decode cX6_knitsRow 123 = .ok (.ireturn, 1) := by decide +kernel
set_option maxRecDepth 20000 in
theorem ggX6_knit_X6_isProject : GoodIn wsX6_knit wsX6_isProject := goodIn_r _ [5, 6, 7, 8, 4, 9, 50, 51, 52, 53, 54, 55, 56, 57, 58, 59, 60, 61, 62, 63, 64, 65, 66, 67, 68, 69, 70, 71, 72, 73, 74, 75] (by decide +kernel) (by decide +kernel)
set_option maxRecDepth 20000 in
theorem gX6_knit_X6_isProject : GoodIn wsX6_knit (wsV RX6 156 RX6 yX6_isProject wsX6_isProject) := goodIn_app (goodIn_of _ (by decide +kernel)) ggX6_knit_X6_isProject
set_option maxRecDepth 20000 in
theorem ggX6_knit_X6_in : GoodIn wsX6_knit wsX6_in := goodIn_r _ [9] (by decide +kernel) (by decide +kernel)
set_option maxRecDepth 20000 in
theorem gX6_knit_X6_in : GoodIn wsX6_knit (va_wsS RX6 72 yX6_in wsX6_in) := goodIn_app (goodIn_of _ (by decide +kernel)) ggX6_knit_X6_in
set_option maxRecDepth 20000 in
theorem ggX6_knit_X6_refused : GoodIn wsX6_knit wsX6_refused := goodIn_r _ [13, 14, 50, 51, 52, 53, 54, 55, 56, 57, 58, 59, 60, 61, 62, 63, 64, 65, 66, 67, 68, 69, 70, 71, 72, 73, 74, 75] (by decide +kernel) (by decide +kernel)
set_option maxRecDepth 20000 in
theorem gX6_knit_X6_refused : GoodIn wsX6_knit (wsV RX6 89 RX6 yX6_refused wsX6_refused) := goodIn_app (goodIn_of _ (by decide +kernel)) ggX6_knit_X6_refused
set_option maxRecDepth 20000 in
theorem ggX6_knit_X6_knitsRow : GoodIn wsX6_knit wsX6_knitsRow := goodIn_r _ [18, 19, 20, 21, 22, 23, 24, 25, 26, 27, 28, 4, 29, 30, 31, 32, 33, 34, 35, 36, 37, 38, 39, 40, 41, 42, 43, 44, 45, 46, 47, 48, 49, 50, 51, 52, 53, 54, 55, 56, 57, 58, 59, 60, 61, 62, 63, 64, 65, 66, 67, 68, 69, 70, 71, 72, 73, 74, 75] (by decide +kernel) (by decide +kernel)
set_option maxRecDepth 20000 in
theorem gX6_knit_X6_knitsRow : GoodIn wsX6_knit (wsV RX6 159 RX6 yX6_knitsRow wsX6_knitsRow) := goodIn_app (goodIn_of _ (by decide +kernel)) ggX6_knit_X6_knitsRow
theorem dX6_knit_0 : decode cX6_knit 0 = .ok (.aload_n 0, 1) := by decide +kernel
theorem dX6_knit_1 : decode cX6_knit 1 = .ok (.aload_n 0, 1) := by decide +kernel
theorem dX6_knit_2 : decode cX6_knit 2 = .ok (.iload_n 1, 1) := by decide +kernel
theorem dX6_knit_3 : decode cX6_knit 3 = .ok (.invokevirtual 156, 3) := by decide +kernel
theorem dX6_knit_6 : decode cX6_knit 6 = .ok (.ifCond .ne 7, 3) := by decide +kernel
theorem dX6_knit_9 : decode cX6_knit 9 = .ok (.iconst 1, 1) := by decide +kernel
theorem dX6_knit_10 : decode cX6_knit 10 = .ok (.goto 18, 3) := by decide +kernel
theorem dX6_knit_13 : decode cX6_knit 13 = .ok (.iload_n 2, 1) := by decide +kernel
theorem dX6_knit_14 : decode cX6_knit 14 = .ok (.iconst 1, 1) := by decide +kernel
theorem dX6_knit_15 : decode cX6_knit 15 = .ok (.bipush 40, 2) := by decide +kernel
theorem dX6_knit_17 : decode cX6_knit 17 = .ok (.invokestatic 72, 3) := by decide +kernel
theorem dX6_knit_20 : decode cX6_knit 20 = .ok (.ifCond .eq 7, 3) := by decide +kernel
theorem dX6_knit_23 : decode cX6_knit 23 = .ok (.iconst 0, 1) := by decide +kernel
theorem dX6_knit_24 : decode cX6_knit 24 = .ok (.goto 4, 3) := by decide +kernel
theorem dX6_knit_27 : decode cX6_knit 27 = .ok (.iconst 2, 1) := by decide +kernel
theorem dX6_knit_28 : decode cX6_knit 28 = .ok (.invokevirtual 89, 3) := by decide +kernel
theorem dX6_knit_31 : decode cX6_knit 31 = .ok (.ifCond .eq 5, 3) := by decide +kernel
theorem dX6_knit_34 : decode cX6_knit 34 = .ok (.iconst 0, 1) := by decide +kernel
theorem dX6_knit_35 : decode cX6_knit 35 = .ok (.ireturn, 1) := by decide +kernel
theorem dX6_knit_36 : decode cX6_knit 36 = .ok (.iconst 0, 1) := by decide +kernel
theorem dX6_knit_37 : decode cX6_knit 37 = .ok (.istore_n 3, 1) := by decide +kernel
theorem dX6_knit_38 : decode cX6_knit 38 = .ok (.iload_n 3, 1) := by decide +kernel
theorem dX6_knit_39 : decode cX6_knit 39 = .ok (.iload_n 2, 1) := by decide +kernel
theorem dX6_knit_40 : decode cX6_knit 40 = .ok (.if_icmp .ge 17, 3) := by decide +kernel
theorem dX6_knit_43 : decode cX6_knit 43 = .ok (.aload_n 0, 1) := by decide +kernel
theorem dX6_knit_44 : decode cX6_knit 44 = .ok (.iload_n 1, 1) := by decide +kernel
theorem dX6_knit_45 : decode cX6_knit 45 = .ok (.invokevirtual 159, 3) := by decide +kernel
theorem dX6_knit_48 : decode cX6_knit 48 = .ok (.ifCond .eq 9, 3) := by decide +kernel
theorem dX6_knit_51 : decode cX6_knit 51 = .ok (.iinc 3 1, 3) := by decide +kernel
theorem dX6_knit_54 : decode cX6_knit 54 = .ok (.goto (-16), 3) := by decide +kernel
theorem dX6_knit_57 : decode cX6_knit 57 = .ok (.iload_n 3, 1) := by decide +kernel
theorem dX6_knit_58 : decode cX6_knit 58 = .ok (.ireturn, 1) := by decide +kernel
set_option maxRecDepth 20000 in
theorem ggX6_progress_X6_isProject : GoodIn wsX6_progress wsX6_isProject := goodIn_r _ [6, 7, 8, 9, 5, 10, 16, 17, 18, 19, 20, 21, 22, 23, 24, 25, 26, 27, 28, 29, 30, 31, 32, 33, 34, 35, 36, 37, 38, 39, 40, 41] (by decide +kernel) (by decide +kernel)
set_option maxRecDepth 20000 in
theorem gX6_progress_X6_isProject : GoodIn wsX6_progress (wsV RX6 156 RX6 yX6_isProject wsX6_isProject) := goodIn_app (goodIn_of _ (by decide +kernel)) ggX6_progress_X6_isProject
set_option maxRecDepth 20000 in
theorem ggX6_progress_X6_refused : GoodIn wsX6_progress wsX6_refused := goodIn_r _ [14, 15, 16, 17, 18, 19, 20, 21, 22, 23, 24, 25, 26, 27, 28, 29, 30, 31, 32, 33, 34, 35, 36, 37, 38, 39, 40, 41] (by decide +kernel) (by decide +kernel)
set_option maxRecDepth 20000 in
theorem gX6_progress_X6_refused : GoodIn wsX6_progress (wsV RX6 89 RX6 yX6_refused wsX6_refused) := goodIn_app (goodIn_of _ (by decide +kernel)) ggX6_progress_X6_refused
theorem dX6_progress_0 : decode cX6_progress 0 = .ok (.aload_n 0, 1) := by decide +kernel
theorem dX6_progress_1 : decode cX6_progress 1 = .ok (.aload_n 0, 1) := by decide +kernel
theorem dX6_progress_2 : decode cX6_progress 2 = .ok (.iload_n 1, 1) := by decide +kernel
theorem dX6_progress_3 : decode cX6_progress 3 = .ok (.invokevirtual 156, 3) := by decide +kernel
theorem dX6_progress_6 : decode cX6_progress 6 = .ok (.ifCond .eq 7, 3) := by decide +kernel
theorem dX6_progress_9 : decode cX6_progress 9 = .ok (.iconst 0, 1) := by decide +kernel
theorem dX6_progress_10 : decode cX6_progress 10 = .ok (.goto 4, 3) := by decide +kernel
theorem dX6_progress_13 : decode cX6_progress 13 = .ok (.iconst 1, 1) := by decide +kernel
theorem dX6_progress_14 : decode cX6_progress 14 = .ok (.invokevirtual 89, 3) := by decide +kernel
theorem dX6_progress_17 : decode cX6_progress 17 = .ok (.ifCond .eq 7, 3) := by decide +kernel
theorem dX6_progress_20 : decode cX6_progress 20 = .ok (.iconst 0, 1) := by decide +kernel
theorem dX6_progress_21 : decode cX6_progress 21 = .ok (.goto 9, 3) := by decide +kernel
theorem dX6_progress_24 : decode cX6_progress 24 = .ok (.aload_n 0, 1) := by decide +kernel
theorem dX6_progress_25 : decode cX6_progress 25 = .ok (.getfield 65, 3) := by decide +kernel
theorem dX6_progress_28 : decode cX6_progress 28 = .ok (.iload_n 1, 1) := by decide +kernel
theorem dX6_progress_29 : decode cX6_progress 29 = .ok (.iaload, 1) := by decide +kernel
theorem dX6_progress_30 : decode cX6_progress 30 = .ok (.ireturn, 1) := by decide +kernel
