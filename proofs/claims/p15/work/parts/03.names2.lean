theorem dX0_init_0 : decode cX0_init 0 = .ok (.aload_n 0, 1) := by decide +kernel
theorem dX0_init_1 : decode cX0_init 1 = .ok (.invokespecial 3, 3) := by decide +kernel
theorem dX0_init_4 : decode cX0_init 4 = .ok (.aload_n 0, 1) := by decide +kernel
theorem dX0_init_5 : decode cX0_init 5 = .ok (.bipush 100, 2) := by decide +kernel
theorem dX0_init_7 : decode cX0_init 7 = .ok (.newarray .boolean, 2) := by decide +kernel
theorem dX0_init_9 : decode cX0_init 9 = .ok (.putfield 9, 3) := by decide +kernel
theorem dX0_init_12 : decode cX0_init 12 = .ok (.aload_n 0, 1) := by decide +kernel
theorem dX0_init_13 : decode cX0_init 13 = .ok (.bipush 100, 2) := by decide +kernel
theorem dX0_init_15 : decode cX0_init 15 = .ok (.newarray .int, 2) := by decide +kernel
theorem dX0_init_17 : decode cX0_init 17 = .ok (.putfield 15, 3) := by decide +kernel
theorem dX0_init_20 : decode cX0_init 20 = .ok (.aload_n 0, 1) := by decide +kernel
theorem dX0_init_21 : decode cX0_init 21 = .ok (.bipush 100, 2) := by decide +kernel
theorem dX0_init_23 : decode cX0_init 23 = .ok (.newarray .int, 2) := by decide +kernel
theorem dX0_init_25 : decode cX0_init 25 = .ok (.putfield 19, 3) := by decide +kernel
theorem dX0_init_28 : decode cX0_init 28 = .ok (.aload_n 0, 1) := by decide +kernel
theorem dX0_init_29 : decode cX0_init 29 = .ok (.bipush 100, 2) := by decide +kernel
theorem dX0_init_31 : decode cX0_init 31 = .ok (.newarray .int, 2) := by decide +kernel
theorem dX0_init_33 : decode cX0_init 33 = .ok (.putfield 22, 3) := by decide +kernel
theorem dX0_init_36 : decode cX0_init 36 = .ok (.aload_n 0, 1) := by decide +kernel
theorem dX0_init_37 : decode cX0_init 37 = .ok (.sipush 1200, 3) := by decide +kernel
theorem dX0_init_40 : decode cX0_init 40 = .ok (.newarray .long, 2) := by decide +kernel
theorem dX0_init_42 : decode cX0_init 42 = .ok (.putfield 25, 3) := by decide +kernel
theorem dX0_init_45 : decode cX0_init 45 = .ok (.aload_n 0, 1) := by decide +kernel
theorem dX0_init_46 : decode cX0_init 46 = .ok (.sipush 600, 3) := by decide +kernel
theorem dX0_init_49 : decode cX0_init 49 = .ok (.newarray .int, 2) := by decide +kernel
theorem dX0_init_51 : decode cX0_init 51 = .ok (.putfield 29, 3) := by decide +kernel
theorem dX0_init_54 : decode cX0_init 54 = .ok (.aload_n 0, 1) := by decide +kernel
theorem dX0_init_55 : decode cX0_init 55 = .ok (.iconst 0, 1) := by decide +kernel
theorem dX0_init_56 : decode cX0_init 56 = .ok (.putfield 32, 3) := by decide +kernel
theorem dX0_init_59 : decode cX0_init 59 = .ok (.return_, 1) := by decide +kernel
theorem dX0_has_0 : decode cX0_has 0 = .ok (.iload_n 1, 1) := by decide +kernel
theorem dX0_has_1 : decode cX0_has 1 = .ok (.iconst 1, 1) := by decide +kernel
theorem dX0_has_2 : decode cX0_has 2 = .ok (.if_icmp .lt 15, 3) := by decide +kernel
theorem dX0_has_5 : decode cX0_has 5 = .ok (.iload_n 1, 1) := by decide +kernel
theorem dX0_has_6 : decode cX0_has 6 = .ok (.aload_n 0, 1) := by decide +kernel
theorem dX0_has_7 : decode cX0_has 7 = .ok (.getfield 32, 3) := by decide +kernel
theorem dX0_has_10 : decode cX0_has 10 = .ok (.if_icmp .gt 7, 3) := by decide +kernel
theorem dX0_has_13 : decode cX0_has 13 = .ok (.iconst 1, 1) := by decide +kernel
theorem dX0_has_14 : decode cX0_has 14 = .ok (.goto 4, 3) := by decide +kernel
theorem dX0_has_17 : decode cX0_has 17 = .ok (.iconst 0, 1) := by decide +kernel
theorem dX0_has_18 : decode cX0_has 18 = .ok (.ireturn, 1) := by decide +kernel
theorem dX0_addTorn_0 : decode cX0_addTorn 0 = .ok (.aload_n 0, 1) := by decide +kernel
theorem dX0_addTorn_1 : decode cX0_addTorn 1 = .ok (.getfield 32, 3) := by decide +kernel
theorem dX0_addTorn_4 : decode cX0_addTorn 4 = .ok (.bipush 100, 2) := by decide +kernel
theorem dX0_addTorn_6 : decode cX0_addTorn 6 = .ok (.if_icmp .lt 4, 3) := by decide +kernel
theorem dX0_addTorn_9 : decode cX0_addTorn 9 = .ok (.return_, 1) := by decide +kernel
theorem dX0_addTorn_10 : decode cX0_addTorn 10 = .ok (.aload_n 0, 1) := by decide +kernel
theorem dX0_addTorn_11 : decode cX0_addTorn 11 = .ok (.getfield 9, 3) := by decide +kernel
theorem dX0_addTorn_14 : decode cX0_addTorn 14 = .ok (.aload_n 0, 1) := by decide +kernel
theorem dX0_addTorn_15 : decode cX0_addTorn 15 = .ok (.getfield 32, 3) := by decide +kernel
theorem dX0_addTorn_18 : decode cX0_addTorn 18 = .ok (.iconst 0, 1) := by decide +kernel
theorem dX0_addTorn_19 : decode cX0_addTorn 19 = .ok (.bastore, 1) := by decide +kernel
theorem dX0_addTorn_20 : decode cX0_addTorn 20 = .ok (.aload_n 0, 1) := by decide +kernel
theorem dX0_addTorn_21 : decode cX0_addTorn 21 = .ok (.dup, 1) := by decide +kernel
theorem dX0_addTorn_22 : decode cX0_addTorn 22 = .ok (.getfield 32, 3) := by decide +kernel
theorem dX0_addTorn_25 : decode cX0_addTorn 25 = .ok (.iconst 1, 1) := by decide +kernel
theorem dX0_addTorn_26 : decode cX0_addTorn 26 = .ok (.iadd, 1) := by decide +kernel
theorem dX0_addTorn_27 : decode cX0_addTorn 27 = .ok (.putfield 32, 3) := by decide +kernel
theorem dX0_addTorn_30 : decode cX0_addTorn 30 = .ok (.return_, 1) := by decide +kernel
theorem dX0_addWhole_0 : decode cX0_addWhole 0 = .ok (.aload_n 0, 1) := by decide +kernel
theorem dX0_addWhole_1 : decode cX0_addWhole 1 = .ok (.getfield 32, 3) := by decide +kernel
theorem dX0_addWhole_4 : decode cX0_addWhole 4 = .ok (.bipush 100, 2) := by decide +kernel
theorem dX0_addWhole_6 : decode cX0_addWhole 6 = .ok (.if_icmp .lt 4, 3) := by decide +kernel
theorem dX0_addWhole_9 : decode cX0_addWhole 9 = .ok (.return_, 1) := by decide +kernel
theorem dX0_addWhole_10 : decode cX0_addWhole 10 = .ok (.aload_n 0, 1) := by decide +kernel
theorem dX0_addWhole_11 : decode cX0_addWhole 11 = .ok (.getfield 32, 3) := by decide +kernel
theorem dX0_addWhole_14 : decode cX0_addWhole 14 = .ok (.istore_n 3, 1) := by decide +kernel
theorem dX0_addWhole_15 : decode cX0_addWhole 15 = .ok (.aload_n 0, 1) := by decide +kernel
theorem dX0_addWhole_16 : decode cX0_addWhole 16 = .ok (.getfield 9, 3) := by decide +kernel
theorem dX0_addWhole_19 : decode cX0_addWhole 19 = .ok (.iload_n 3, 1) := by decide +kernel
theorem dX0_addWhole_20 : decode cX0_addWhole 20 = .ok (.iconst 1, 1) := by decide +kernel
theorem dX0_addWhole_21 : decode cX0_addWhole 21 = .ok (.bastore, 1) := by decide +kernel
theorem dX0_addWhole_22 : decode cX0_addWhole 22 = .ok (.aload_n 0, 1) := by decide +kernel
theorem dX0_addWhole_23 : decode cX0_addWhole 23 = .ok (.getfield 15, 3) := by decide +kernel
theorem dX0_addWhole_26 : decode cX0_addWhole 26 = .ok (.iload_n 3, 1) := by decide +kernel
theorem dX0_addWhole_27 : decode cX0_addWhole 27 = .ok (.iload_n 2, 1) := by decide +kernel
theorem dX0_addWhole_28 : decode cX0_addWhole 28 = .ok (.iastore, 1) := by decide +kernel
theorem dX0_addWhole_29 : decode cX0_addWhole 29 = .ok (.aload_n 0, 1) := by decide +kernel
theorem dX0_addWhole_30 : decode cX0_addWhole 30 = .ok (.getfield 19, 3) := by decide +kernel
theorem dX0_addWhole_33 : decode cX0_addWhole 33 = .ok (.iload_n 3, 1) := by decide +kernel
theorem dX0_addWhole_34 : decode cX0_addWhole 34 = .ok (.aload_n 1, 1) := by decide +kernel
theorem dX0_addWhole_35 : decode cX0_addWhole 35 = .ok (.getfield 36, 3) := by decide +kernel
theorem dX0_addWhole_38 : decode cX0_addWhole 38 = .ok (.iastore, 1) := by decide +kernel
theorem dX0_addWhole_39 : decode cX0_addWhole 39 = .ok (.aload_n 0, 1) := by decide +kernel
theorem dX0_addWhole_40 : decode cX0_addWhole 40 = .ok (.getfield 22, 3) := by decide +kernel
theorem dX0_addWhole_43 : decode cX0_addWhole 43 = .ok (.iload_n 3, 1) := by decide +kernel
theorem dX0_addWhole_44 : decode cX0_addWhole 44 = .ok (.aload_n 1, 1) := by decide +kernel
theorem dX0_addWhole_45 : decode cX0_addWhole 45 = .ok (.getfield 40, 3) := by decide +kernel
theorem dX0_addWhole_48 : decode cX0_addWhole 48 = .ok (.getfield 44, 3) := by decide +kernel
theorem dX0_addWhole_51 : decode cX0_addWhole 51 = .ok (.iastore, 1) := by decide +kernel
theorem dX0_addWhole_52 : decode cX0_addWhole 52 = .ok (.aload_n 1, 1) := by decide +kernel
theorem dX0_addWhole_53 : decode cX0_addWhole 53 = .ok (.getfield 49, 3) := by decide +kernel
theorem dX0_addWhole_56 : decode cX0_addWhole 56 = .ok (.iconst 0, 1) := by decide +kernel
theorem dX0_addWhole_57 : decode cX0_addWhole 57 = .ok (.aload_n 0, 1) := by decide +kernel
theorem dX0_addWhole_58 : decode cX0_addWhole 58 = .ok (.getfield 25, 3) := by decide +kernel
theorem dX0_addWhole_61 : decode cX0_addWhole 61 = .ok (.iload_n 3, 1) := by decide +kernel
theorem dX0_addWhole_62 : decode cX0_addWhole 62 = .ok (.bipush 12, 2) := by decide +kernel
theorem dX0_addWhole_64 : decode cX0_addWhole 64 = .ok (.imul, 1) := by decide +kernel
theorem dX0_addWhole_65 : decode cX0_addWhole 65 = .ok (.bipush 12, 2) := by decide +kernel
theorem dX0_addWhole_67 : decode cX0_addWhole 67 = .ok (.invokestatic 50, 3) := by decide +kernel
theorem dX0_addWhole_70 : decode cX0_addWhole 70 = .ok (.aload_n 1, 1) := by decide +kernel
theorem dX0_addWhole_71 : decode cX0_addWhole 71 = .ok (.getfield 56, 3) := by decide +kernel
theorem dX0_addWhole_74 : decode cX0_addWhole 74 = .ok (.iconst 0, 1) := by decide +kernel
theorem dX0_addWhole_75 : decode cX0_addWhole 75 = .ok (.aload_n 0, 1) := by decide +kernel
theorem dX0_addWhole_76 : decode cX0_addWhole 76 = .ok (.getfield 29, 3) := by decide +kernel
theorem dX0_addWhole_79 : decode cX0_addWhole 79 = .ok (.iload_n 3, 1) := by decide +kernel
theorem dX0_addWhole_80 : decode cX0_addWhole 80 = .ok (.bipush 6, 2) := by decide +kernel
theorem dX0_addWhole_82 : decode cX0_addWhole 82 = .ok (.imul, 1) := by decide +kernel
theorem dX0_addWhole_83 : decode cX0_addWhole 83 = .ok (.bipush 6, 2) := by decide +kernel
theorem dX0_addWhole_85 : decode cX0_addWhole 85 = .ok (.invokestatic 50, 3) := by decide +kernel
theorem dX0_addWhole_88 : decode cX0_addWhole 88 = .ok (.aload_n 0, 1) := by decide +kernel
theorem dX0_addWhole_89 : decode cX0_addWhole 89 = .ok (.dup, 1) := by decide +kernel
theorem dX0_addWhole_90 : decode cX0_addWhole 90 = .ok (.getfield 32, 3) := by decide +kernel
theorem dX0_addWhole_93 : decode cX0_addWhole 93 = .ok (.iconst 1, 1) := by decide +kernel
theorem dX0_addWhole_94 : decode cX0_addWhole 94 = .ok (.iadd, 1) := by decide +kernel
theorem dX0_addWhole_95 : decode cX0_addWhole 95 = .ok (.putfield 32, 3) := by decide +kernel
theorem dX0_addWhole_98 : decode cX0_addWhole 98 = .ok (.return_, 1) := by decide +kernel
set_option maxRecDepth 20000 in
theorem ggX0_latestWholeUpTo_X0_has : GoodIn wsX0_latestWholeUpTo wsX0_has := goodIn_r _ [6, 7, 8, 9, 10, 11, 12, 13, 14] rfl (by decide +kernel)
set_option maxRecDepth 20000 in
theorem gX0_latestWholeUpTo_X0_has : GoodIn wsX0_latestWholeUpTo (wsV RX0 57 RX0 yX0_has wsX0_has) := goodIn_app (goodIn_of _ (by decide +kernel)) ggX0_latestWholeUpTo_X0_has
theorem dX0_latestWholeUpTo_0 : decode cX0_latestWholeUpTo 0 = .ok (.aload_n 0, 1) := by decide +kernel
theorem dX0_latestWholeUpTo_1 : decode cX0_latestWholeUpTo 1 = .ok (.iload_n 1, 1) := by decide +kernel
theorem dX0_latestWholeUpTo_2 : decode cX0_latestWholeUpTo 2 = .ok (.invokevirtual 57, 3) := by decide +kernel
theorem dX0_latestWholeUpTo_5 : decode cX0_latestWholeUpTo 5 = .ok (.ifCond .ne 5, 3) := by decide +kernel
theorem dX0_latestWholeUpTo_8 : decode cX0_latestWholeUpTo 8 = .ok (.iconst (-1), 1) := by decide +kernel
theorem dX0_latestWholeUpTo_9 : decode cX0_latestWholeUpTo 9 = .ok (.ireturn, 1) := by decide +kernel
theorem dX0_latestWholeUpTo_10 : decode cX0_latestWholeUpTo 10 = .ok (.iload_n 1, 1) := by decide +kernel
theorem dX0_latestWholeUpTo_11 : decode cX0_latestWholeUpTo 11 = .ok (.istore_n 2, 1) := by decide +kernel
theorem dX0_latestWholeUpTo_12 : decode cX0_latestWholeUpTo 12 = .ok (.iload_n 2, 1) := by decide +kernel
theorem dX0_latestWholeUpTo_13 : decode cX0_latestWholeUpTo 13 = .ok (.iconst 1, 1) := by decide +kernel
theorem dX0_latestWholeUpTo_14 : decode cX0_latestWholeUpTo 14 = .ok (.if_icmp .lt 22, 3) := by decide +kernel
theorem dX0_latestWholeUpTo_17 : decode cX0_latestWholeUpTo 17 = .ok (.aload_n 0, 1) := by decide +kernel
theorem dX0_latestWholeUpTo_18 : decode cX0_latestWholeUpTo 18 = .ok (.getfield 9, 3) := by decide +kernel
theorem dX0_latestWholeUpTo_21 : decode cX0_latestWholeUpTo 21 = .ok (.iload_n 2, 1) := by decide +kernel
theorem dX0_latestWholeUpTo_22 : decode cX0_latestWholeUpTo 22 = .ok (.iconst 1, 1) := by decide +kernel
theorem dX0_latestWholeUpTo_23 : decode cX0_latestWholeUpTo 23 = .ok (.isub, 1) := by decide +kernel
theorem dX0_latestWholeUpTo_24 : decode cX0_latestWholeUpTo 24 = .ok (.baload, 1) := by decide +kernel
theorem dX0_latestWholeUpTo_25 : decode cX0_latestWholeUpTo 25 = .ok (.ifCond .eq 5, 3) := by decide +kernel
theorem dX0_latestWholeUpTo_28 : decode cX0_latestWholeUpTo 28 = .ok (.iload_n 2, 1) := by decide +kernel
theorem dX0_latestWholeUpTo_29 : decode cX0_latestWholeUpTo 29 = .ok (.ireturn, 1) := by decide +kernel
theorem dX0_latestWholeUpTo_30 : decode cX0_latestWholeUpTo 30 = .ok (.iinc 2 (-1), 3) := by decide +kernel
theorem dX0_latestWholeUpTo_33 : decode cX0_latestWholeUpTo 33 = .ok (.goto (-21), 3) := by decide +kernel
theorem dX0_latestWholeUpTo_36 : decode cX0_latestWholeUpTo 36 = .ok (.iconst (-1), 1) := by decide +kernel
theorem dX0_latestWholeUpTo_37 : decode cX0_latestWholeUpTo 37 = .ok (.ireturn, 1) := by decide +kernel
theorem dX0_isPastAFilesEnd_0 : decode cX0_isPastAFilesEnd 0 = .ok (.iload_n 1, 1) := by decide +kernel
theorem dX0_isPastAFilesEnd_1 : decode cX0_isPastAFilesEnd 1 = .ok (.iconst 1, 1) := by decide +kernel
theorem dX0_isPastAFilesEnd_2 : decode cX0_isPastAFilesEnd 2 = .ok (.isub, 1) := by decide +kernel
theorem dX0_isPastAFilesEnd_3 : decode cX0_isPastAFilesEnd 3 = .ok (.bipush 6, 2) := by decide +kernel
theorem dX0_isPastAFilesEnd_5 : decode cX0_isPastAFilesEnd 5 = .ok (.imul, 1) := by decide +kernel
theorem dX0_isPastAFilesEnd_6 : decode cX0_isPastAFilesEnd 6 = .ok (.istore_n 3, 1) := by decide +kernel
theorem dX0_isPastAFilesEnd_7 : decode cX0_isPastAFilesEnd 7 = .ok (.iconst 0, 1) := by decide +kernel
theorem dX0_isPastAFilesEnd_8 : decode cX0_isPastAFilesEnd 8 = .ok (.istore 4, 2) := by decide +kernel
theorem dX0_isPastAFilesEnd_10 : decode cX0_isPastAFilesEnd 10 = .ok (.iload 4, 2) := by decide +kernel
theorem dX0_isPastAFilesEnd_12 : decode cX0_isPastAFilesEnd 12 = .ok (.aload_n 2, 1) := by decide +kernel
theorem dX0_isPastAFilesEnd_13 : decode cX0_isPastAFilesEnd 13 = .ok (.getfield 61, 3) := by decide +kernel
theorem dX0_isPastAFilesEnd_16 : decode cX0_isPastAFilesEnd 16 = .ok (.if_icmp .ge 30, 3) := by decide +kernel
theorem dX0_isPastAFilesEnd_19 : decode cX0_isPastAFilesEnd 19 = .ok (.aload_n 2, 1) := by decide +kernel
theorem dX0_isPastAFilesEnd_20 : decode cX0_isPastAFilesEnd 20 = .ok (.getfield 64, 3) := by decide +kernel
theorem dX0_isPastAFilesEnd_23 : decode cX0_isPastAFilesEnd 23 = .ok (.iload 4, 2) := by decide +kernel
theorem dX0_isPastAFilesEnd_25 : decode cX0_isPastAFilesEnd 25 = .ok (.iaload, 1) := by decide +kernel
theorem dX0_isPastAFilesEnd_26 : decode cX0_isPastAFilesEnd 26 = .ok (.aload_n 0, 1) := by decide +kernel
theorem dX0_isPastAFilesEnd_27 : decode cX0_isPastAFilesEnd 27 = .ok (.getfield 29, 3) := by decide +kernel
theorem dX0_isPastAFilesEnd_30 : decode cX0_isPastAFilesEnd 30 = .ok (.iload_n 3, 1) := by decide +kernel
theorem dX0_isPastAFilesEnd_31 : decode cX0_isPastAFilesEnd 31 = .ok (.iload 4, 2) := by decide +kernel
theorem dX0_isPastAFilesEnd_33 : decode cX0_isPastAFilesEnd 33 = .ok (.iadd, 1) := by decide +kernel
theorem dX0_isPastAFilesEnd_34 : decode cX0_isPastAFilesEnd 34 = .ok (.iaload, 1) := by decide +kernel
theorem dX0_isPastAFilesEnd_35 : decode cX0_isPastAFilesEnd 35 = .ok (.if_icmp .ge 5, 3) := by decide +kernel
theorem dX0_isPastAFilesEnd_38 : decode cX0_isPastAFilesEnd 38 = .ok (.iconst 1, 1) := by decide +kernel
theorem dX0_isPastAFilesEnd_39 : decode cX0_isPastAFilesEnd 39 = .ok (.ireturn, 1) := by decide +kernel
theorem dX0_isPastAFilesEnd_40 : decode cX0_isPastAFilesEnd 40 = .ok (.iinc 4 1, 3) := by decide +kernel
theorem dX0_isPastAFilesEnd_43 : decode cX0_isPastAFilesEnd 43 = .ok (.goto (-33), 3) := by decide +kernel
theorem dX0_isPastAFilesEnd_46 : decode cX0_isPastAFilesEnd 46 = .ok (.iconst 0, 1) := by decide +kernel
theorem dX0_isPastAFilesEnd_47 : decode cX0_isPastAFilesEnd 47 = .ok (.ireturn, 1) := by decide +kernel
set_option maxRecDepth 20000 in
theorem ggX0_putBack_X2_startOver : GoodIn wsX0_putBack wsX2_startOver := goodIn_r _ [16, 17, 18, 19, 20, 21, 22, 30, 31, 32, 33, 34, 35, 36, 37] rfl (by decide +kernel)
set_option maxRecDepth 20000 in
theorem gX0_putBack_X2_startOver : GoodIn wsX0_putBack (wsV RX0 67 RX2 yX2_startOver wsX2_startOver) := goodIn_app (goodIn_of _ (by decide +kernel)) ggX0_putBack_X2_startOver
theorem dX0_putBack_0 : decode cX0_putBack 0 = .ok (.iload_n 1, 1) := by decide +kernel
theorem dX0_putBack_1 : decode cX0_putBack 1 = .ok (.iconst 1, 1) := by decide +kernel
theorem dX0_putBack_2 : decode cX0_putBack 2 = .ok (.isub, 1) := by decide +kernel
theorem dX0_putBack_3 : decode cX0_putBack 3 = .ok (.istore_n 3, 1) := by decide +kernel
theorem dX0_putBack_4 : decode cX0_putBack 4 = .ok (.aload_n 2, 1) := by decide +kernel
theorem dX0_putBack_5 : decode cX0_putBack 5 = .ok (.invokevirtual 67, 3) := by decide +kernel
theorem dX0_putBack_8 : decode cX0_putBack 8 = .ok (.aload_n 0, 1) := by decide +kernel
theorem dX0_putBack_9 : decode cX0_putBack 9 = .ok (.getfield 25, 3) := by decide +kernel
theorem dX0_putBack_12 : decode cX0_putBack 12 = .ok (.iload_n 3, 1) := by decide +kernel
theorem dX0_putBack_13 : decode cX0_putBack 13 = .ok (.bipush 12, 2) := by decide +kernel
theorem dX0_putBack_15 : decode cX0_putBack 15 = .ok (.imul, 1) := by decide +kernel
theorem dX0_putBack_16 : decode cX0_putBack 16 = .ok (.aload_n 2, 1) := by decide +kernel
theorem dX0_putBack_17 : decode cX0_putBack 17 = .ok (.getfield 49, 3) := by decide +kernel
theorem dX0_putBack_20 : decode cX0_putBack 20 = .ok (.iconst 0, 1) := by decide +kernel
theorem dX0_putBack_21 : decode cX0_putBack 21 = .ok (.aload_n 0, 1) := by decide +kernel
theorem dX0_putBack_22 : decode cX0_putBack 22 = .ok (.getfield 22, 3) := by decide +kernel
theorem dX0_putBack_25 : decode cX0_putBack 25 = .ok (.iload_n 3, 1) := by decide +kernel
theorem dX0_putBack_26 : decode cX0_putBack 26 = .ok (.iaload, 1) := by decide +kernel
theorem dX0_putBack_27 : decode cX0_putBack 27 = .ok (.invokestatic 50, 3) := by decide +kernel
theorem dX0_putBack_30 : decode cX0_putBack 30 = .ok (.aload_n 0, 1) := by decide +kernel
theorem dX0_putBack_31 : decode cX0_putBack 31 = .ok (.getfield 29, 3) := by decide +kernel
theorem dX0_putBack_34 : decode cX0_putBack 34 = .ok (.iload_n 3, 1) := by decide +kernel
theorem dX0_putBack_35 : decode cX0_putBack 35 = .ok (.bipush 6, 2) := by decide +kernel
theorem dX0_putBack_37 : decode cX0_putBack 37 = .ok (.imul, 1) := by decide +kernel
theorem dX0_putBack_38 : decode cX0_putBack 38 = .ok (.aload_n 2, 1) := by decide +kernel
theorem dX0_putBack_39 : decode cX0_putBack 39 = .ok (.getfield 56, 3) := by decide +kernel
theorem dX0_putBack_42 : decode cX0_putBack 42 = .ok (.iconst 0, 1) := by decide +kernel
theorem dX0_putBack_43 : decode cX0_putBack 43 = .ok (.bipush 6, 2) := by decide +kernel
theorem dX0_putBack_45 : decode cX0_putBack 45 = .ok (.invokestatic 50, 3) := by decide +kernel
theorem dX0_putBack_48 : decode cX0_putBack 48 = .ok (.aload_n 2, 1) := by decide +kernel
theorem dX0_putBack_49 : decode cX0_putBack 49 = .ok (.aload_n 0, 1) := by decide +kernel
theorem dX0_putBack_50 : decode cX0_putBack 50 = .ok (.getfield 19, 3) := by decide +kernel
theorem dX0_putBack_53 : decode cX0_putBack 53 = .ok (.iload_n 3, 1) := by decide +kernel
theorem dX0_putBack_54 : decode cX0_putBack 54 = .ok (.iaload, 1) := by decide +kernel
theorem dX0_putBack_55 : decode cX0_putBack 55 = .ok (.putfield 36, 3) := by decide +kernel
theorem dX0_putBack_58 : decode cX0_putBack 58 = .ok (.return_, 1) := by decide +kernel
theorem dX1_init_0 : decode cX1_init 0 = .ok (.aload_n 0, 1) := by decide +kernel
theorem dX1_init_1 : decode cX1_init 1 = .ok (.invokespecial 3, 3) := by decide +kernel
theorem dX1_init_4 : decode cX1_init 4 = .ok (.aload_n 0, 1) := by decide +kernel
theorem dX1_init_5 : decode cX1_init 5 = .ok (.bipush 12, 2) := by decide +kernel
theorem dX1_init_7 : decode cX1_init 7 = .ok (.newarray .long, 2) := by decide +kernel
theorem dX1_init_9 : decode cX1_init 9 = .ok (.putfield 9, 3) := by decide +kernel
theorem dX1_init_12 : decode cX1_init 12 = .ok (.aload_n 0, 1) := by decide +kernel
theorem dX1_init_13 : decode cX1_init 13 = .ok (.bipush 6, 2) := by decide +kernel
theorem dX1_init_15 : decode cX1_init 15 = .ok (.newarray .int, 2) := by decide +kernel
theorem dX1_init_17 : decode cX1_init 17 = .ok (.putfield 15, 3) := by decide +kernel
theorem dX1_init_20 : decode cX1_init 20 = .ok (.aload_n 0, 1) := by decide +kernel
theorem dX1_init_21 : decode cX1_init 21 = .ok (.iconst 0, 1) := by decide +kernel
theorem dX1_init_22 : decode cX1_init 22 = .ok (.putfield 19, 3) := by decide +kernel
theorem dX1_init_25 : decode cX1_init 25 = .ok (.aload_n 0, 1) := by decide +kernel
theorem dX1_init_26 : decode cX1_init 26 = .ok (.iconst 0, 1) := by decide +kernel
theorem dX1_init_27 : decode cX1_init 27 = .ok (.putfield 23, 3) := by decide +kernel
theorem dX1_init_30 : decode cX1_init 30 = .ok (.return_, 1) := by decide +kernel
theorem dX1_hasFile_0 : decode cX1_hasFile 0 = .ok (.iload_n 1, 1) := by decide +kernel
theorem dX1_hasFile_1 : decode cX1_hasFile 1 = .ok (.ifCond .lt 15, 3) := by decide +kernel
theorem dX1_hasFile_4 : decode cX1_hasFile 4 = .ok (.iload_n 1, 1) := by decide +kernel
theorem dX1_hasFile_5 : decode cX1_hasFile 5 = .ok (.aload_n 0, 1) := by decide +kernel
theorem dX1_hasFile_6 : decode cX1_hasFile 6 = .ok (.getfield 23, 3) := by decide +kernel
theorem dX1_hasFile_9 : decode cX1_hasFile 9 = .ok (.if_icmp .ge 7, 3) := by decide +kernel
theorem dX1_hasFile_12 : decode cX1_hasFile 12 = .ok (.iconst 1, 1) := by decide +kernel
theorem dX1_hasFile_13 : decode cX1_hasFile 13 = .ok (.goto 4, 3) := by decide +kernel
theorem dX1_hasFile_16 : decode cX1_hasFile 16 = .ok (.iconst 0, 1) := by decide +kernel
theorem dX1_hasFile_17 : decode cX1_hasFile 17 = .ok (.ireturn, 1) := by decide +kernel
theorem dX2_init_0 : decode cX2_init 0 = .ok (.aload_n 0, 1) := by decide +kernel
theorem dX2_init_1 : decode cX2_init 1 = .ok (.invokespecial 3, 3) := by decide +kernel
theorem dX2_init_4 : decode cX2_init 4 = .ok (.aload_n 0, 1) := by decide +kernel
theorem dX2_init_5 : decode cX2_init 5 = .ok (.bipush 12, 2) := by decide +kernel
theorem dX2_init_7 : decode cX2_init 7 = .ok (.newarray .long, 2) := by decide +kernel
theorem dX2_init_9 : decode cX2_init 9 = .ok (.putfield 9, 3) := by decide +kernel
theorem dX2_init_12 : decode cX2_init 12 = .ok (.aload_n 0, 1) := by decide +kernel
theorem dX2_init_13 : decode cX2_init 13 = .ok (.bipush 6, 2) := by decide +kernel
theorem dX2_init_15 : decode cX2_init 15 = .ok (.newarray .int, 2) := by decide +kernel
theorem dX2_init_17 : decode cX2_init 17 = .ok (.putfield 15, 3) := by decide +kernel
theorem dX2_init_20 : decode cX2_init 20 = .ok (.aload_n 0, 1) := by decide +kernel
theorem dX2_init_21 : decode cX2_init 21 = .ok (.iconst 0, 1) := by decide +kernel
theorem dX2_init_22 : decode cX2_init 22 = .ok (.putfield 19, 3) := by decide +kernel
theorem dX2_init_25 : decode cX2_init 25 = .ok (.aload_n 0, 1) := by decide +kernel
theorem dX2_init_26 : decode cX2_init 26 = .ok (.aload_n 1, 1) := by decide +kernel
theorem dX2_init_27 : decode cX2_init 27 = .ok (.putfield 23, 3) := by decide +kernel
theorem dX2_init_30 : decode cX2_init 30 = .ok (.return_, 1) := by decide +kernel
theorem dX2_startOver_0 : decode cX2_startOver 0 = .ok (.iconst 0, 1) := by decide +kernel
theorem dX2_startOver_1 : decode cX2_startOver 1 = .ok (.istore_n 1, 1) := by decide +kernel
theorem dX2_startOver_2 : decode cX2_startOver 2 = .ok (.iload_n 1, 1) := by decide +kernel
theorem dX2_startOver_3 : decode cX2_startOver 3 = .ok (.aload_n 0, 1) := by decide +kernel
theorem dX2_startOver_4 : decode cX2_startOver 4 = .ok (.getfield 23, 3) := by decide +kernel
theorem dX2_startOver_7 : decode cX2_startOver 7 = .ok (.getfield 27, 3) := by decide +kernel
theorem dX2_startOver_10 : decode cX2_startOver 10 = .ok (.if_icmp .ge 24, 3) := by decide +kernel
theorem dX2_startOver_13 : decode cX2_startOver 13 = .ok (.aload_n 0, 1) := by decide +kernel
theorem dX2_startOver_14 : decode cX2_startOver 14 = .ok (.getfield 9, 3) := by decide +kernel
theorem dX2_startOver_17 : decode cX2_startOver 17 = .ok (.iload_n 1, 1) := by decide +kernel
theorem dX2_startOver_18 : decode cX2_startOver 18 = .ok (.aload_n 0, 1) := by decide +kernel
theorem dX2_startOver_19 : decode cX2_startOver 19 = .ok (.getfield 23, 3) := by decide +kernel
theorem dX2_startOver_22 : decode cX2_startOver 22 = .ok (.getfield 32, 3) := by decide +kernel
theorem dX2_startOver_25 : decode cX2_startOver 25 = .ok (.iload_n 1, 1) := by decide +kernel
theorem dX2_startOver_26 : decode cX2_startOver 26 = .ok (.laload, 1) := by decide +kernel
theorem dX2_startOver_27 : decode cX2_startOver 27 = .ok (.lastore, 1) := by decide +kernel
theorem dX2_startOver_28 : decode cX2_startOver 28 = .ok (.iinc 1 1, 3) := by decide +kernel
theorem dX2_startOver_31 : decode cX2_startOver 31 = .ok (.goto (-29), 3) := by decide +kernel
theorem dX2_startOver_34 : decode cX2_startOver 34 = .ok (.iconst 0, 1) := by decide +kernel
theorem dX2_startOver_35 : decode cX2_startOver 35 = .ok (.istore_n 1, 1) := by decide +kernel
theorem dX2_startOver_36 : decode cX2_startOver 36 = .ok (.iload_n 1, 1) := by decide +kernel
theorem dX2_startOver_37 : decode cX2_startOver 37 = .ok (.bipush 6, 2) := by decide +kernel
theorem dX2_startOver_39 : decode cX2_startOver 39 = .ok (.if_icmp .ge 16, 3) := by decide +kernel
theorem dX2_startOver_42 : decode cX2_startOver 42 = .ok (.aload_n 0, 1) := by decide +kernel
theorem dX2_startOver_43 : decode cX2_startOver 43 = .ok (.getfield 15, 3) := by decide +kernel
theorem dX2_startOver_46 : decode cX2_startOver 46 = .ok (.iload_n 1, 1) := by decide +kernel
theorem dX2_startOver_47 : decode cX2_startOver 47 = .ok (.iconst 0, 1) := by decide +kernel
theorem dX2_startOver_48 : decode cX2_startOver 48 = .ok (.iastore, 1) := by decide +kernel
theorem dX2_startOver_49 : decode cX2_startOver 49 = .ok (.iinc 1 1, 3) := by decide +kernel
theorem dX2_startOver_52 : decode cX2_startOver 52 = .ok (.goto (-16), 3) := by decide +kernel
theorem dX2_startOver_55 : decode cX2_startOver 55 = .ok (.aload_n 0, 1) := by decide +kernel
theorem dX2_startOver_56 : decode cX2_startOver 56 = .ok (.iconst 0, 1) := by decide +kernel
theorem dX2_startOver_57 : decode cX2_startOver 57 = .ok (.putfield 19, 3) := by decide +kernel
theorem dX2_startOver_60 : decode cX2_startOver 60 = .ok (.return_, 1) := by decide +kernel
theorem dX2_isEnded_0 : decode cX2_isEnded 0 = .ok (.iconst 0, 1) := by decide +kernel
theorem dX2_isEnded_1 : decode cX2_isEnded 1 = .ok (.istore_n 1, 1) := by decide +kernel
theorem dX2_isEnded_2 : decode cX2_isEnded 2 = .ok (.iload_n 1, 1) := by decide +kernel
theorem dX2_isEnded_3 : decode cX2_isEnded 3 = .ok (.aload_n 0, 1) := by decide +kernel
theorem dX2_isEnded_4 : decode cX2_isEnded 4 = .ok (.getfield 23, 3) := by decide +kernel
theorem dX2_isEnded_7 : decode cX2_isEnded 7 = .ok (.getfield 35, 3) := by decide +kernel
theorem dX2_isEnded_10 : decode cX2_isEnded 10 = .ok (.if_icmp .ge 29, 3) := by decide +kernel
theorem dX2_isEnded_13 : decode cX2_isEnded 13 = .ok (.aload_n 0, 1) := by decide +kernel
theorem dX2_isEnded_14 : decode cX2_isEnded 14 = .ok (.getfield 15, 3) := by decide +kernel
theorem dX2_isEnded_17 : decode cX2_isEnded 17 = .ok (.iload_n 1, 1) := by decide +kernel
theorem dX2_isEnded_18 : decode cX2_isEnded 18 = .ok (.iaload, 1) := by decide +kernel
theorem dX2_isEnded_19 : decode cX2_isEnded 19 = .ok (.aload_n 0, 1) := by decide +kernel
theorem dX2_isEnded_20 : decode cX2_isEnded 20 = .ok (.getfield 23, 3) := by decide +kernel
theorem dX2_isEnded_23 : decode cX2_isEnded 23 = .ok (.getfield 38, 3) := by decide +kernel
theorem dX2_isEnded_26 : decode cX2_isEnded 26 = .ok (.iload_n 1, 1) := by decide +kernel
theorem dX2_isEnded_27 : decode cX2_isEnded 27 = .ok (.iaload, 1) := by decide +kernel
theorem dX2_isEnded_28 : decode cX2_isEnded 28 = .ok (.if_icmp .ge 5, 3) := by decide +kernel
theorem dX2_isEnded_31 : decode cX2_isEnded 31 = .ok (.iconst 0, 1) := by decide +kernel
theorem dX2_isEnded_32 : decode cX2_isEnded 32 = .ok (.ireturn, 1) := by decide +kernel
theorem dX2_isEnded_33 : decode cX2_isEnded 33 = .ok (.iinc 1 1, 3) := by decide +kernel
theorem dX2_isEnded_36 : decode cX2_isEnded 36 = .ok (.goto (-34), 3) := by decide +kernel
theorem dX2_isEnded_39 : decode cX2_isEnded 39 = .ok (.iconst 1, 1) := by decide +kernel
theorem dX2_isEnded_40 : decode cX2_isEnded 40 = .ok (.ireturn, 1) := by decide +kernel
set_option maxRecDepth 20000 in
theorem ggX2_doUnit_X2_readRecord : GoodIn wsX2_doUnit wsX2_readRecord := goodIn_r _ [9, 2, 10, 11, 12, 13, 14, 15, 16, 17, 18, 19, 20, 21] rfl (by decide +kernel)
set_option maxRecDepth 20000 in
theorem gX2_doUnit_X2_readRecord : GoodIn wsX2_doUnit (wsV RX2 41 RX2 yX2_readRecord wsX2_readRecord) := goodIn_app (goodIn_of _ (by decide +kernel)) ggX2_doUnit_X2_readRecord
theorem dX2_doUnit_0 : decode cX2_doUnit 0 = .ok (.aload_n 0, 1) := by decide +kernel
theorem dX2_doUnit_1 : decode cX2_doUnit 1 = .ok (.getfield 19, 3) := by decide +kernel
theorem dX2_doUnit_4 : decode cX2_doUnit 4 = .ok (.istore_n 1, 1) := by decide +kernel
theorem dX2_doUnit_5 : decode cX2_doUnit 5 = .ok (.aload_n 0, 1) := by decide +kernel
theorem dX2_doUnit_6 : decode cX2_doUnit 6 = .ok (.iload_n 1, 1) := by decide +kernel
theorem dX2_doUnit_7 : decode cX2_doUnit 7 = .ok (.invokevirtual 41, 3) := by decide +kernel
theorem dX2_doUnit_10 : decode cX2_doUnit 10 = .ok (.lstore_n 2, 1) := by decide +kernel
theorem dX2_doUnit_11 : decode cX2_doUnit 11 = .ok (.aload_n 0, 1) := by decide +kernel
theorem dX2_doUnit_12 : decode cX2_doUnit 12 = .ok (.dup, 1) := by decide +kernel
theorem dX2_doUnit_13 : decode cX2_doUnit 13 = .ok (.getfield 19, 3) := by decide +kernel
theorem dX2_doUnit_16 : decode cX2_doUnit 16 = .ok (.iconst 1, 1) := by decide +kernel
theorem dX2_doUnit_17 : decode cX2_doUnit 17 = .ok (.iadd, 1) := by decide +kernel
theorem dX2_doUnit_18 : decode cX2_doUnit 18 = .ok (.putfield 19, 3) := by decide +kernel
theorem dX2_doUnit_21 : decode cX2_doUnit 21 = .ok (.aload_n 0, 1) := by decide +kernel
theorem dX2_doUnit_22 : decode cX2_doUnit 22 = .ok (.getfield 23, 3) := by decide +kernel
theorem dX2_doUnit_25 : decode cX2_doUnit 25 = .ok (.getfield 27, 3) := by decide +kernel
theorem dX2_doUnit_28 : decode cX2_doUnit 28 = .ok (.ifCond .ne 5, 3) := by decide +kernel
theorem dX2_doUnit_31 : decode cX2_doUnit 31 = .ok (.lconst 0, 1) := by decide +kernel
theorem dX2_doUnit_32 : decode cX2_doUnit 32 = .ok (.lreturn, 1) := by decide +kernel
theorem dX2_doUnit_33 : decode cX2_doUnit 33 = .ok (.iload_n 1, 1) := by decide +kernel
theorem dX2_doUnit_34 : decode cX2_doUnit 34 = .ok (.aload_n 0, 1) := by decide +kernel
theorem dX2_doUnit_35 : decode cX2_doUnit 35 = .ok (.getfield 23, 3) := by decide +kernel
theorem dX2_doUnit_38 : decode cX2_doUnit 38 = .ok (.getfield 27, 3) := by decide +kernel
theorem dX2_doUnit_41 : decode cX2_doUnit 41 = .ok (.irem, 1) := by decide +kernel
theorem dX2_doUnit_42 : decode cX2_doUnit 42 = .ok (.istore 4, 2) := by decide +kernel
theorem dX2_doUnit_44 : decode cX2_doUnit 44 = .ok (.aload_n 0, 1) := by decide +kernel
theorem dX2_doUnit_45 : decode cX2_doUnit 45 = .ok (.getfield 9, 3) := by decide +kernel
theorem dX2_doUnit_48 : decode cX2_doUnit 48 = .ok (.iload 4, 2) := by decide +kernel
theorem dX2_doUnit_50 : decode cX2_doUnit 50 = .ok (.dup2, 1) := by decide +kernel
theorem dX2_doUnit_51 : decode cX2_doUnit 51 = .ok (.laload, 1) := by decide +kernel
theorem dX2_doUnit_52 : decode cX2_doUnit 52 = .ok (.aload_n 0, 1) := by decide +kernel
theorem dX2_doUnit_53 : decode cX2_doUnit 53 = .ok (.getfield 19, 3) := by decide +kernel
theorem dX2_doUnit_56 : decode cX2_doUnit 56 = .ok (.i2l, 1) := by decide +kernel
theorem dX2_doUnit_57 : decode cX2_doUnit 57 = .ok (.lload_n 2, 1) := by decide +kernel
theorem dX2_doUnit_58 : decode cX2_doUnit 58 = .ok (.lmul, 1) := by decide +kernel
theorem dX2_doUnit_59 : decode cX2_doUnit 59 = .ok (.ladd, 1) := by decide +kernel
theorem dX2_doUnit_60 : decode cX2_doUnit 60 = .ok (.lastore, 1) := by decide +kernel
theorem dX2_doUnit_61 : decode cX2_doUnit 61 = .ok (.aload_n 0, 1) := by decide +kernel
theorem dX2_doUnit_62 : decode cX2_doUnit 62 = .ok (.getfield 9, 3) := by decide +kernel
theorem dX2_doUnit_65 : decode cX2_doUnit 65 = .ok (.iload 4, 2) := by decide +kernel
theorem dX2_doUnit_67 : decode cX2_doUnit 67 = .ok (.laload, 1) := by decide +kernel
theorem dX2_doUnit_68 : decode cX2_doUnit 68 = .ok (.lreturn, 1) := by decide +kernel
theorem dX2_readRecord_0 : decode cX2_readRecord 0 = .ok (.aload_n 0, 1) := by decide +kernel
theorem dX2_readRecord_1 : decode cX2_readRecord 1 = .ok (.getfield 23, 3) := by decide +kernel
theorem dX2_readRecord_4 : decode cX2_readRecord 4 = .ok (.getfield 35, 3) := by decide +kernel
theorem dX2_readRecord_7 : decode cX2_readRecord 7 = .ok (.ifCond .ne 5, 3) := by decide +kernel
theorem dX2_readRecord_10 : decode cX2_readRecord 10 = .ok (.lconst 0, 1) := by decide +kernel
theorem dX2_readRecord_11 : decode cX2_readRecord 11 = .ok (.lreturn, 1) := by decide +kernel
theorem dX2_readRecord_12 : decode cX2_readRecord 12 = .ok (.iload_n 1, 1) := by decide +kernel
theorem dX2_readRecord_13 : decode cX2_readRecord 13 = .ok (.aload_n 0, 1) := by decide +kernel
theorem dX2_readRecord_14 : decode cX2_readRecord 14 = .ok (.getfield 23, 3) := by decide +kernel
theorem dX2_readRecord_17 : decode cX2_readRecord 17 = .ok (.getfield 35, 3) := by decide +kernel
theorem dX2_readRecord_20 : decode cX2_readRecord 20 = .ok (.irem, 1) := by decide +kernel
theorem dX2_readRecord_21 : decode cX2_readRecord 21 = .ok (.istore_n 2, 1) := by decide +kernel
theorem dX2_readRecord_22 : decode cX2_readRecord 22 = .ok (.aload_n 0, 1) := by decide +kernel
theorem dX2_readRecord_23 : decode cX2_readRecord 23 = .ok (.getfield 15, 3) := by decide +kernel
theorem dX2_readRecord_26 : decode cX2_readRecord 26 = .ok (.iload_n 2, 1) := by decide +kernel
theorem dX2_readRecord_27 : decode cX2_readRecord 27 = .ok (.iaload, 1) := by decide +kernel
theorem dX2_readRecord_28 : decode cX2_readRecord 28 = .ok (.istore_n 3, 1) := by decide +kernel
theorem dX2_readRecord_29 : decode cX2_readRecord 29 = .ok (.iload_n 3, 1) := by decide +kernel
theorem dX2_readRecord_30 : decode cX2_readRecord 30 = .ok (.aload_n 0, 1) := by decide +kernel
theorem dX2_readRecord_31 : decode cX2_readRecord 31 = .ok (.getfield 23, 3) := by decide +kernel
theorem dX2_readRecord_34 : decode cX2_readRecord 34 = .ok (.getfield 38, 3) := by decide +kernel
theorem dX2_readRecord_37 : decode cX2_readRecord 37 = .ok (.iload_n 2, 1) := by decide +kernel
theorem dX2_readRecord_38 : decode cX2_readRecord 38 = .ok (.iaload, 1) := by decide +kernel
theorem dX2_readRecord_39 : decode cX2_readRecord 39 = .ok (.if_icmp .lt 5, 3) := by decide +kernel
theorem dX2_readRecord_42 : decode cX2_readRecord 42 = .ok (.lconst 0, 1) := by decide +kernel
theorem dX2_readRecord_43 : decode cX2_readRecord 43 = .ok (.lreturn, 1) := by decide +kernel
theorem dX2_readRecord_44 : decode cX2_readRecord 44 = .ok (.aload_n 0, 1) := by decide +kernel
theorem dX2_readRecord_45 : decode cX2_readRecord 45 = .ok (.getfield 15, 3) := by decide +kernel
theorem dX2_readRecord_48 : decode cX2_readRecord 48 = .ok (.iload_n 2, 1) := by decide +kernel
theorem dX2_readRecord_49 : decode cX2_readRecord 49 = .ok (.iload_n 3, 1) := by decide +kernel
theorem dX2_readRecord_50 : decode cX2_readRecord 50 = .ok (.iconst 1, 1) := by decide +kernel
theorem dX2_readRecord_51 : decode cX2_readRecord 51 = .ok (.iadd, 1) := by decide +kernel
theorem dX2_readRecord_52 : decode cX2_readRecord 52 = .ok (.iastore, 1) := by decide +kernel
theorem dX2_readRecord_53 : decode cX2_readRecord 53 = .ok (.ldc2_w 45, 3) := by decide +kernel
theorem dX2_readRecord_56 : decode cX2_readRecord 56 = .ok (.iload_n 2, 1) := by decide +kernel
theorem dX2_readRecord_57 : decode cX2_readRecord 57 = .ok (.iconst 1, 1) := by decide +kernel
theorem dX2_readRecord_58 : decode cX2_readRecord 58 = .ok (.iadd, 1) := by decide +kernel
theorem dX2_readRecord_59 : decode cX2_readRecord 59 = .ok (.i2l, 1) := by decide +kernel
theorem dX2_readRecord_60 : decode cX2_readRecord 60 = .ok (.lmul, 1) := by decide +kernel
theorem dX2_readRecord_61 : decode cX2_readRecord 61 = .ok (.iload_n 3, 1) := by decide +kernel
theorem dX2_readRecord_62 : decode cX2_readRecord 62 = .ok (.i2l, 1) := by decide +kernel
theorem dX2_readRecord_63 : decode cX2_readRecord 63 = .ok (.ladd, 1) := by decide +kernel
theorem dX2_readRecord_64 : decode cX2_readRecord 64 = .ok (.lreturn, 1) := by decide +kernel
theorem dX2_hasCellsOf_0 : decode cX2_hasCellsOf 0 = .ok (.iconst 0, 1) := by decide +kernel
theorem dX2_hasCellsOf_1 : decode cX2_hasCellsOf 1 = .ok (.istore_n 2, 1) := by decide +kernel
theorem dX2_hasCellsOf_2 : decode cX2_hasCellsOf 2 = .ok (.iload_n 2, 1) := by decide +kernel
theorem dX2_hasCellsOf_3 : decode cX2_hasCellsOf 3 = .ok (.aload_n 0, 1) := by decide +kernel
theorem dX2_hasCellsOf_4 : decode cX2_hasCellsOf 4 = .ok (.getfield 23, 3) := by decide +kernel
theorem dX2_hasCellsOf_7 : decode cX2_hasCellsOf 7 = .ok (.getfield 27, 3) := by decide +kernel
theorem dX2_hasCellsOf_10 : decode cX2_hasCellsOf 10 = .ok (.if_icmp .ge 27, 3) := by decide +kernel
theorem dX2_hasCellsOf_13 : decode cX2_hasCellsOf 13 = .ok (.aload_n 0, 1) := by decide +kernel
theorem dX2_hasCellsOf_14 : decode cX2_hasCellsOf 14 = .ok (.getfield 9, 3) := by decide +kernel
theorem dX2_hasCellsOf_17 : decode cX2_hasCellsOf 17 = .ok (.iload_n 2, 1) := by decide +kernel
theorem dX2_hasCellsOf_18 : decode cX2_hasCellsOf 18 = .ok (.laload, 1) := by decide +kernel
theorem dX2_hasCellsOf_19 : decode cX2_hasCellsOf 19 = .ok (.aload_n 1, 1) := by decide +kernel
theorem dX2_hasCellsOf_20 : decode cX2_hasCellsOf 20 = .ok (.getfield 9, 3) := by decide +kernel
theorem dX2_hasCellsOf_23 : decode cX2_hasCellsOf 23 = .ok (.iload_n 2, 1) := by decide +kernel
theorem dX2_hasCellsOf_24 : decode cX2_hasCellsOf 24 = .ok (.laload, 1) := by decide +kernel
theorem dX2_hasCellsOf_25 : decode cX2_hasCellsOf 25 = .ok (.lcmp, 1) := by decide +kernel
theorem dX2_hasCellsOf_26 : decode cX2_hasCellsOf 26 = .ok (.ifCond .eq 5, 3) := by decide +kernel
theorem dX2_hasCellsOf_29 : decode cX2_hasCellsOf 29 = .ok (.iconst 0, 1) := by decide +kernel
theorem dX2_hasCellsOf_30 : decode cX2_hasCellsOf 30 = .ok (.ireturn, 1) := by decide +kernel
theorem dX2_hasCellsOf_31 : decode cX2_hasCellsOf 31 = .ok (.iinc 2 1, 3) := by decide +kernel
theorem dX2_hasCellsOf_34 : decode cX2_hasCellsOf 34 = .ok (.goto (-32), 3) := by decide +kernel
theorem dX2_hasCellsOf_37 : decode cX2_hasCellsOf 37 = .ok (.iconst 1, 1) := by decide +kernel
theorem dX2_hasCellsOf_38 : decode cX2_hasCellsOf 38 = .ok (.ireturn, 1) := by decide +kernel
set_option maxRecDepth 20000 in
theorem ggX3_init_X1_init : GoodIn wsX3_init wsX1_init := goodIn_r _ [24, 25, 2, 3, 13, 26, 27, 28, 29, 30, 50, 51, 52, 53] rfl (by decide +kernel)
set_option maxRecDepth 20000 in
theorem gX3_init_X1_init_n9 : GoodIn wsX3_init (wsX1_init) := ggX3_init_X1_init
set_option maxRecDepth 20000 in
theorem ggX3_init_X2_init : GoodIn wsX3_init wsX2_init := goodIn_r _ [33, 34, 2, 3, 13, 35, 27, 36, 37, 38, 63, 64, 65, 66] rfl (by decide +kernel)
set_option maxRecDepth 20000 in
theorem gX3_init_X2_init : GoodIn wsX3_init (wsX2_init) := ggX3_init_X2_init
set_option maxRecDepth 20000 in
theorem ggX3_init_X0_init : GoodIn wsX3_init wsX0_init := goodIn_r _ [40, 41, 2, 3, 42, 43, 27, 44, 45, 46, 13, 47, 48, 49, 67, 68, 69, 70, 71, 72, 73] rfl (by decide +kernel)
set_option maxRecDepth 20000 in
theorem gX3_init_X0_init_n34 : GoodIn wsX3_init (wsX0_init) := ggX3_init_X0_init
