theorem dX3_init_0 : decode cX3_init 0 = .ok (.aload_n 0, 1) := by decide +kernel
theorem dX3_init_1 : decode cX3_init 1 = .ok (.invokespecial 1, 3) := by decide +kernel
theorem dX3_init_4 : decode cX3_init 4 = .ok (.aload_n 0, 1) := by decide +kernel
theorem dX3_init_5 : decode cX3_init 5 = .ok (.new 7, 3) := by decide +kernel
theorem dX3_init_8 : decode cX3_init 8 = .ok (.dup, 1) := by decide +kernel
theorem dX3_init_9 : decode cX3_init 9 = .ok (.invokespecial 9, 3) := by decide +kernel
theorem dX3_init_12 : decode cX3_init 12 = .ok (.putfield 10, 3) := by decide +kernel
theorem dX3_init_15 : decode cX3_init 15 = .ok (.aload_n 0, 1) := by decide +kernel
theorem dX3_init_16 : decode cX3_init 16 = .ok (.new 16, 3) := by decide +kernel
theorem dX3_init_19 : decode cX3_init 19 = .ok (.dup, 1) := by decide +kernel
theorem dX3_init_20 : decode cX3_init 20 = .ok (.aload_n 0, 1) := by decide +kernel
theorem dX3_init_21 : decode cX3_init 21 = .ok (.getfield 10, 3) := by decide +kernel
theorem dX3_init_24 : decode cX3_init 24 = .ok (.invokespecial 18, 3) := by decide +kernel
theorem dX3_init_27 : decode cX3_init 27 = .ok (.putfield 21, 3) := by decide +kernel
theorem dX3_init_30 : decode cX3_init 30 = .ok (.aload_n 0, 1) := by decide +kernel
theorem dX3_init_31 : decode cX3_init 31 = .ok (.new 16, 3) := by decide +kernel
theorem dX3_init_34 : decode cX3_init 34 = .ok (.dup, 1) := by decide +kernel
theorem dX3_init_35 : decode cX3_init 35 = .ok (.aload_n 0, 1) := by decide +kernel
theorem dX3_init_36 : decode cX3_init 36 = .ok (.getfield 10, 3) := by decide +kernel
theorem dX3_init_39 : decode cX3_init 39 = .ok (.invokespecial 18, 3) := by decide +kernel
theorem dX3_init_42 : decode cX3_init 42 = .ok (.putfield 25, 3) := by decide +kernel
theorem dX3_init_45 : decode cX3_init 45 = .ok (.aload_n 0, 1) := by decide +kernel
theorem dX3_init_46 : decode cX3_init 46 = .ok (.sipush 5000, 3) := by decide +kernel
theorem dX3_init_49 : decode cX3_init 49 = .ok (.newarray .long, 2) := by decide +kernel
theorem dX3_init_51 : decode cX3_init 51 = .ok (.putfield 28, 3) := by decide +kernel
theorem dX3_init_54 : decode cX3_init 54 = .ok (.aload_n 0, 1) := by decide +kernel
theorem dX3_init_55 : decode cX3_init 55 = .ok (.new 32, 3) := by decide +kernel
theorem dX3_init_58 : decode cX3_init 58 = .ok (.dup, 1) := by decide +kernel
theorem dX3_init_59 : decode cX3_init 59 = .ok (.invokespecial 34, 3) := by decide +kernel
theorem dX3_init_62 : decode cX3_init 62 = .ok (.putfield 35, 3) := by decide +kernel
theorem dX3_init_65 : decode cX3_init 65 = .ok (.aload_n 0, 1) := by decide +kernel
theorem dX3_init_66 : decode cX3_init 66 = .ok (.iconst 0, 1) := by decide +kernel
theorem dX3_init_67 : decode cX3_init 67 = .ok (.putfield 39, 3) := by decide +kernel
theorem dX3_init_70 : decode cX3_init 70 = .ok (.aload_n 0, 1) := by decide +kernel
theorem dX3_init_71 : decode cX3_init 71 = .ok (.iconst 0, 1) := by decide +kernel
theorem dX3_init_72 : decode cX3_init 72 = .ok (.putfield 43, 3) := by decide +kernel
theorem dX3_init_75 : decode cX3_init 75 = .ok (.aload_n 0, 1) := by decide +kernel
theorem dX3_init_76 : decode cX3_init 76 = .ok (.iconst 0, 1) := by decide +kernel
theorem dX3_init_77 : decode cX3_init 77 = .ok (.putfield 47, 3) := by decide +kernel
theorem dX3_init_80 : decode cX3_init 80 = .ok (.aload_n 0, 1) := by decide +kernel
theorem dX3_init_81 : decode cX3_init 81 = .ok (.iconst 0, 1) := by decide +kernel
theorem dX3_init_82 : decode cX3_init 82 = .ok (.putfield 50, 3) := by decide +kernel
theorem dX3_init_85 : decode cX3_init 85 = .ok (.return_, 1) := by decide +kernel
set_option maxRecDepth 20000 in
theorem ggX3_cell_X3_isSetupOver : GoodIn wsX3_cell wsX3_isSetupOver := goodIn_r _ [10, 11, 4, 12, 13, 14, 15, 16, 17, 18, 19, 20, 21, 26, 27, 28, 29] rfl (by decide +kernel)
set_option maxRecDepth 20000 in
theorem gX3_cell_X3_isSetupOver : GoodIn wsX3_cell (wsV RX3 53 RX3 yX3_isSetupOver wsX3_isSetupOver) := goodIn_app (goodIn_of _ (by decide +kernel)) ggX3_cell_X3_isSetupOver
theorem dX3_cell_0 : decode cX3_cell 0 = .ok (.aload_n 0, 1) := by decide +kernel
theorem dX3_cell_1 : decode cX3_cell 1 = .ok (.invokevirtual 53, 3) := by decide +kernel
theorem dX3_cell_4 : decode cX3_cell 4 = .ok (.ifCond .eq 6, 3) := by decide +kernel
theorem dX3_cell_7 : decode cX3_cell 7 = .ok (.bipush (-5), 2) := by decide +kernel
theorem dX3_cell_9 : decode cX3_cell 9 = .ok (.ireturn, 1) := by decide +kernel
theorem dX3_cell_10 : decode cX3_cell 10 = .ok (.aload_n 0, 1) := by decide +kernel
theorem dX3_cell_11 : decode cX3_cell 11 = .ok (.getfield 10, 3) := by decide +kernel
theorem dX3_cell_14 : decode cX3_cell 14 = .ok (.getfield 57, 3) := by decide +kernel
theorem dX3_cell_17 : decode cX3_cell 17 = .ok (.bipush 12, 2) := by decide +kernel
theorem dX3_cell_19 : decode cX3_cell 19 = .ok (.if_icmp .lt 5, 3) := by decide +kernel
theorem dX3_cell_22 : decode cX3_cell 22 = .ok (.iconst (-1), 1) := by decide +kernel
theorem dX3_cell_23 : decode cX3_cell 23 = .ok (.ireturn, 1) := by decide +kernel
theorem dX3_cell_24 : decode cX3_cell 24 = .ok (.aload_n 0, 1) := by decide +kernel
theorem dX3_cell_25 : decode cX3_cell 25 = .ok (.getfield 10, 3) := by decide +kernel
theorem dX3_cell_28 : decode cX3_cell 28 = .ok (.getfield 57, 3) := by decide +kernel
theorem dX3_cell_31 : decode cX3_cell 31 = .ok (.istore_n 3, 1) := by decide +kernel
theorem dX3_cell_32 : decode cX3_cell 32 = .ok (.aload_n 0, 1) := by decide +kernel
theorem dX3_cell_33 : decode cX3_cell 33 = .ok (.getfield 10, 3) := by decide +kernel
theorem dX3_cell_36 : decode cX3_cell 36 = .ok (.getfield 60, 3) := by decide +kernel
theorem dX3_cell_39 : decode cX3_cell 39 = .ok (.iload_n 3, 1) := by decide +kernel
theorem dX3_cell_40 : decode cX3_cell 40 = .ok (.lload_n 1, 1) := by decide +kernel
theorem dX3_cell_41 : decode cX3_cell 41 = .ok (.lastore, 1) := by decide +kernel
theorem dX3_cell_42 : decode cX3_cell 42 = .ok (.aload_n 0, 1) := by decide +kernel
theorem dX3_cell_43 : decode cX3_cell 43 = .ok (.getfield 10, 3) := by decide +kernel
theorem dX3_cell_46 : decode cX3_cell 46 = .ok (.dup, 1) := by decide +kernel
theorem dX3_cell_47 : decode cX3_cell 47 = .ok (.getfield 57, 3) := by decide +kernel
theorem dX3_cell_50 : decode cX3_cell 50 = .ok (.iconst 1, 1) := by decide +kernel
theorem dX3_cell_51 : decode cX3_cell 51 = .ok (.iadd, 1) := by decide +kernel
theorem dX3_cell_52 : decode cX3_cell 52 = .ok (.putfield 57, 3) := by decide +kernel
theorem dX3_cell_55 : decode cX3_cell 55 = .ok (.aload_n 0, 1) := by decide +kernel
theorem dX3_cell_56 : decode cX3_cell 56 = .ok (.getfield 21, 3) := by decide +kernel
theorem dX3_cell_59 : decode cX3_cell 59 = .ok (.getfield 63, 3) := by decide +kernel
theorem dX3_cell_62 : decode cX3_cell 62 = .ok (.iload_n 3, 1) := by decide +kernel
theorem dX3_cell_63 : decode cX3_cell 63 = .ok (.lload_n 1, 1) := by decide +kernel
theorem dX3_cell_64 : decode cX3_cell 64 = .ok (.lastore, 1) := by decide +kernel
theorem dX3_cell_65 : decode cX3_cell 65 = .ok (.iload_n 3, 1) := by decide +kernel
theorem dX3_cell_66 : decode cX3_cell 66 = .ok (.ireturn, 1) := by decide +kernel
set_option maxRecDepth 20000 in
theorem ggX3_file_X3_isSetupOver : GoodIn wsX3_file wsX3_isSetupOver := goodIn_r _ [8, 9, 10, 11, 12, 13, 14, 15, 16, 17, 18, 19, 20, 25, 26, 27, 28] rfl (by decide +kernel)
set_option maxRecDepth 20000 in
theorem gX3_file_X3_isSetupOver : GoodIn wsX3_file (wsV RX3 53 RX3 yX3_isSetupOver wsX3_isSetupOver) := goodIn_app (goodIn_of _ (by decide +kernel)) ggX3_file_X3_isSetupOver
theorem dX3_file_0 : decode cX3_file 0 = .ok (.iload_n 1, 1) := by decide +kernel
theorem dX3_file_1 : decode cX3_file 1 = .ok (.ifCond .lt 10, 3) := by decide +kernel
theorem dX3_file_4 : decode cX3_file 4 = .ok (.iload_n 1, 1) := by decide +kernel
theorem dX3_file_5 : decode cX3_file 5 = .ok (.sipush 2000, 3) := by decide +kernel
theorem dX3_file_8 : decode cX3_file 8 = .ok (.if_icmp .le 6, 3) := by decide +kernel
theorem dX3_file_11 : decode cX3_file 11 = .ok (.bipush (-4), 2) := by decide +kernel
theorem dX3_file_13 : decode cX3_file 13 = .ok (.ireturn, 1) := by decide +kernel
theorem dX3_file_14 : decode cX3_file 14 = .ok (.aload_n 0, 1) := by decide +kernel
theorem dX3_file_15 : decode cX3_file 15 = .ok (.invokevirtual 53, 3) := by decide +kernel
theorem dX3_file_18 : decode cX3_file 18 = .ok (.ifCond .eq 6, 3) := by decide +kernel
theorem dX3_file_21 : decode cX3_file 21 = .ok (.bipush (-5), 2) := by decide +kernel
theorem dX3_file_23 : decode cX3_file 23 = .ok (.ireturn, 1) := by decide +kernel
theorem dX3_file_24 : decode cX3_file 24 = .ok (.aload_n 0, 1) := by decide +kernel
theorem dX3_file_25 : decode cX3_file 25 = .ok (.getfield 10, 3) := by decide +kernel
theorem dX3_file_28 : decode cX3_file 28 = .ok (.getfield 66, 3) := by decide +kernel
theorem dX3_file_31 : decode cX3_file 31 = .ok (.bipush 6, 2) := by decide +kernel
theorem dX3_file_33 : decode cX3_file 33 = .ok (.if_icmp .lt 5, 3) := by decide +kernel
theorem dX3_file_36 : decode cX3_file 36 = .ok (.iconst (-1), 1) := by decide +kernel
theorem dX3_file_37 : decode cX3_file 37 = .ok (.ireturn, 1) := by decide +kernel
theorem dX3_file_38 : decode cX3_file 38 = .ok (.aload_n 0, 1) := by decide +kernel
theorem dX3_file_39 : decode cX3_file 39 = .ok (.getfield 10, 3) := by decide +kernel
theorem dX3_file_42 : decode cX3_file 42 = .ok (.getfield 66, 3) := by decide +kernel
theorem dX3_file_45 : decode cX3_file 45 = .ok (.istore_n 2, 1) := by decide +kernel
theorem dX3_file_46 : decode cX3_file 46 = .ok (.aload_n 0, 1) := by decide +kernel
theorem dX3_file_47 : decode cX3_file 47 = .ok (.getfield 10, 3) := by decide +kernel
theorem dX3_file_50 : decode cX3_file 50 = .ok (.getfield 69, 3) := by decide +kernel
theorem dX3_file_53 : decode cX3_file 53 = .ok (.iload_n 2, 1) := by decide +kernel
theorem dX3_file_54 : decode cX3_file 54 = .ok (.iload_n 1, 1) := by decide +kernel
theorem dX3_file_55 : decode cX3_file 55 = .ok (.iastore, 1) := by decide +kernel
theorem dX3_file_56 : decode cX3_file 56 = .ok (.aload_n 0, 1) := by decide +kernel
theorem dX3_file_57 : decode cX3_file 57 = .ok (.getfield 10, 3) := by decide +kernel
theorem dX3_file_60 : decode cX3_file 60 = .ok (.dup, 1) := by decide +kernel
theorem dX3_file_61 : decode cX3_file 61 = .ok (.getfield 66, 3) := by decide +kernel
theorem dX3_file_64 : decode cX3_file 64 = .ok (.iconst 1, 1) := by decide +kernel
theorem dX3_file_65 : decode cX3_file 65 = .ok (.iadd, 1) := by decide +kernel
theorem dX3_file_66 : decode cX3_file 66 = .ok (.putfield 66, 3) := by decide +kernel
theorem dX3_file_69 : decode cX3_file 69 = .ok (.iload_n 2, 1) := by decide +kernel
theorem dX3_file_70 : decode cX3_file 70 = .ok (.ireturn, 1) := by decide +kernel
set_option maxRecDepth 20000 in
theorem ggX3_step_X2_isEnded : GoodIn wsX3_step wsX2_isEnded := goodIn_r _ [9, 10, 11, 12, 13, 35, 36, 37, 38, 39, 40, 41, 42] rfl (by decide +kernel)
set_option maxRecDepth 20000 in
theorem gX3_step_X2_isEnded : GoodIn wsX3_step (wsV RX3 76 RX2 yX2_isEnded wsX2_isEnded) := goodIn_app (goodIn_of _ (by decide +kernel)) ggX3_step_X2_isEnded
set_option maxRecDepth 20000 in
theorem ggX3_step_X2_doUnit : GoodIn wsX3_step wsX2_doUnit := goodIn_r _ [17, 18, 10, 19, 20, 21, 22, 23, 8, 24, 11, 12, 13, 25, 35, 36, 37, 38, 39, 40, 41, 42] rfl (by decide +kernel)
set_option maxRecDepth 20000 in
theorem gX3_step_X2_doUnit : GoodIn wsX3_step (wsV RX3 79 RX2 yX2_doUnit wsX2_doUnit) := goodIn_app (goodIn_of _ (by decide +kernel)) ggX3_step_X2_doUnit
theorem dX3_step_0 : decode cX3_step 0 = .ok (.iload_n 1, 1) := by decide +kernel
theorem dX3_step_1 : decode cX3_step 1 = .ok (.ifCond .lt 10, 3) := by decide +kernel
theorem dX3_step_4 : decode cX3_step 4 = .ok (.iload_n 1, 1) := by decide +kernel
theorem dX3_step_5 : decode cX3_step 5 = .ok (.sipush 1000, 3) := by decide +kernel
theorem dX3_step_8 : decode cX3_step 8 = .ok (.if_icmp .le 6, 3) := by decide +kernel
theorem dX3_step_11 : decode cX3_step 11 = .ok (.bipush (-4), 2) := by decide +kernel
theorem dX3_step_13 : decode cX3_step 13 = .ok (.ireturn, 1) := by decide +kernel
theorem dX3_step_14 : decode cX3_step 14 = .ok (.aload_n 0, 1) := by decide +kernel
theorem dX3_step_15 : decode cX3_step 15 = .ok (.getfield 43, 3) := by decide +kernel
theorem dX3_step_18 : decode cX3_step 18 = .ok (.ifCond .eq 6, 3) := by decide +kernel
theorem dX3_step_21 : decode cX3_step 21 = .ok (.bipush (-5), 2) := by decide +kernel
theorem dX3_step_23 : decode cX3_step 23 = .ok (.ireturn, 1) := by decide +kernel
theorem dX3_step_24 : decode cX3_step 24 = .ok (.iconst 0, 1) := by decide +kernel
theorem dX3_step_25 : decode cX3_step 25 = .ok (.istore_n 2, 1) := by decide +kernel
theorem dX3_step_26 : decode cX3_step 26 = .ok (.iload_n 2, 1) := by decide +kernel
theorem dX3_step_27 : decode cX3_step 27 = .ok (.iload_n 1, 1) := by decide +kernel
theorem dX3_step_28 : decode cX3_step 28 = .ok (.if_icmp .ge 53, 3) := by decide +kernel
theorem dX3_step_31 : decode cX3_step 31 = .ok (.aload_n 0, 1) := by decide +kernel
theorem dX3_step_32 : decode cX3_step 32 = .ok (.getfield 21, 3) := by decide +kernel
theorem dX3_step_35 : decode cX3_step 35 = .ok (.getfield 73, 3) := by decide +kernel
theorem dX3_step_38 : decode cX3_step 38 = .ok (.sipush 5000, 3) := by decide +kernel
theorem dX3_step_41 : decode cX3_step 41 = .ok (.if_icmp .ge 40, 3) := by decide +kernel
theorem dX3_step_44 : decode cX3_step 44 = .ok (.aload_n 0, 1) := by decide +kernel
theorem dX3_step_45 : decode cX3_step 45 = .ok (.getfield 21, 3) := by decide +kernel
theorem dX3_step_48 : decode cX3_step 48 = .ok (.invokevirtual 76, 3) := by decide +kernel
theorem dX3_step_51 : decode cX3_step 51 = .ok (.ifCond .ne 30, 3) := by decide +kernel
theorem dX3_step_54 : decode cX3_step 54 = .ok (.aload_n 0, 1) := by decide +kernel
theorem dX3_step_55 : decode cX3_step 55 = .ok (.getfield 21, 3) := by decide +kernel
theorem dX3_step_58 : decode cX3_step 58 = .ok (.getfield 73, 3) := by decide +kernel
theorem dX3_step_61 : decode cX3_step 61 = .ok (.istore_n 3, 1) := by decide +kernel
theorem dX3_step_62 : decode cX3_step 62 = .ok (.aload_n 0, 1) := by decide +kernel
theorem dX3_step_63 : decode cX3_step 63 = .ok (.getfield 28, 3) := by decide +kernel
theorem dX3_step_66 : decode cX3_step 66 = .ok (.iload_n 3, 1) := by decide +kernel
theorem dX3_step_67 : decode cX3_step 67 = .ok (.aload_n 0, 1) := by decide +kernel
theorem dX3_step_68 : decode cX3_step 68 = .ok (.getfield 21, 3) := by decide +kernel
theorem dX3_step_71 : decode cX3_step 71 = .ok (.invokevirtual 79, 3) := by decide +kernel
theorem dX3_step_74 : decode cX3_step 74 = .ok (.lastore, 1) := by decide +kernel
theorem dX3_step_75 : decode cX3_step 75 = .ok (.iinc 2 1, 3) := by decide +kernel
theorem dX3_step_78 : decode cX3_step 78 = .ok (.goto (-52), 3) := by decide +kernel
theorem dX3_step_81 : decode cX3_step 81 = .ok (.iload_n 2, 1) := by decide +kernel
theorem dX3_step_82 : decode cX3_step 82 = .ok (.ireturn, 1) := by decide +kernel
set_option maxRecDepth 20000 in
theorem ggX3_check_X0_addTorn : GoodIn wsX3_check wsX0_addTorn := goodIn_r _ [14, 15, 16, 50, 51, 52, 53, 54, 55, 56] rfl (by decide +kernel)
set_option maxRecDepth 20000 in
theorem gX3_check_X0_addTorn : GoodIn wsX3_check (wsV RX3 86 RX0 yX0_addTorn wsX0_addTorn) := goodIn_app (goodIn_of _ (by decide +kernel)) ggX3_check_X0_addTorn
set_option maxRecDepth 20000 in
theorem ggX3_check_X3_goDown : GoodIn wsX3_check wsX3_goDown := goodIn_r _ [21, 1, 7, 22, 41, 42, 43, 44, 45, 46, 47, 48, 49] rfl (by decide +kernel)
set_option maxRecDepth 20000 in
theorem gX3_check_X3_goDown : GoodIn wsX3_check (wsV RX3 89 RX3 yX3_goDown wsX3_goDown) := goodIn_app (goodIn_of _ (by decide +kernel)) ggX3_check_X3_goDown
set_option maxRecDepth 20000 in
theorem ggX3_check_X0_addWhole : GoodIn wsX3_check wsX0_addWhole := goodIn_r _ [26, 15, 16, 27, 28, 29, 30, 31, 32, 33, 34, 35, 36, 37, 38, 39, 40, 50, 51, 52, 53, 54, 55, 56, 61, 62, 63, 64, 57, 58, 59, 60] rfl (by decide +kernel)
set_option maxRecDepth 20000 in
theorem gX3_check_X0_addWhole : GoodIn wsX3_check (wsV RX3 92 RX0 yX0_addWhole wsX0_addWhole) := goodIn_app (goodIn_of _ (by decide +kernel)) ggX3_check_X0_addWhole
theorem dX3_check_0 : decode cX3_check 0 = .ok (.aload_n 0, 1) := by decide +kernel
theorem dX3_check_1 : decode cX3_check 1 = .ok (.getfield 43, 3) := by decide +kernel
theorem dX3_check_4 : decode cX3_check 4 = .ok (.ifCond .eq 6, 3) := by decide +kernel
theorem dX3_check_7 : decode cX3_check 7 = .ok (.bipush (-5), 2) := by decide +kernel
theorem dX3_check_9 : decode cX3_check 9 = .ok (.ireturn, 1) := by decide +kernel
theorem dX3_check_10 : decode cX3_check 10 = .ok (.aload_n 0, 1) := by decide +kernel
theorem dX3_check_11 : decode cX3_check 11 = .ok (.getfield 35, 3) := by decide +kernel
theorem dX3_check_14 : decode cX3_check 14 = .ok (.getfield 83, 3) := by decide +kernel
theorem dX3_check_17 : decode cX3_check 17 = .ok (.bipush 100, 2) := by decide +kernel
theorem dX3_check_19 : decode cX3_check 19 = .ok (.if_icmp .lt 5, 3) := by decide +kernel
theorem dX3_check_22 : decode cX3_check 22 = .ok (.iconst (-1), 1) := by decide +kernel
theorem dX3_check_23 : decode cX3_check 23 = .ok (.ireturn, 1) := by decide +kernel
theorem dX3_check_24 : decode cX3_check 24 = .ok (.iconst 4, 1) := by decide +kernel
theorem dX3_check_25 : decode cX3_check 25 = .ok (.aload_n 0, 1) := by decide +kernel
theorem dX3_check_26 : decode cX3_check 26 = .ok (.getfield 10, 3) := by decide +kernel
theorem dX3_check_29 : decode cX3_check 29 = .ok (.getfield 57, 3) := by decide +kernel
theorem dX3_check_32 : decode cX3_check 32 = .ok (.iadd, 1) := by decide +kernel
theorem dX3_check_33 : decode cX3_check 33 = .ok (.aload_n 0, 1) := by decide +kernel
theorem dX3_check_34 : decode cX3_check 34 = .ok (.getfield 10, 3) := by decide +kernel
theorem dX3_check_37 : decode cX3_check 37 = .ok (.getfield 66, 3) := by decide +kernel
theorem dX3_check_40 : decode cX3_check 40 = .ok (.iadd, 1) := by decide +kernel
theorem dX3_check_41 : decode cX3_check 41 = .ok (.istore_n 1, 1) := by decide +kernel
theorem dX3_check_42 : decode cX3_check 42 = .ok (.aload_n 0, 1) := by decide +kernel
theorem dX3_check_43 : decode cX3_check 43 = .ok (.getfield 47, 3) := by decide +kernel
theorem dX3_check_46 : decode cX3_check 46 = .ok (.ifCond .eq 32, 3) := by decide +kernel
theorem dX3_check_49 : decode cX3_check 49 = .ok (.aload_n 0, 1) := by decide +kernel
theorem dX3_check_50 : decode cX3_check 50 = .ok (.getfield 47, 3) := by decide +kernel
theorem dX3_check_53 : decode cX3_check 53 = .ok (.iload_n 1, 1) := by decide +kernel
theorem dX3_check_54 : decode cX3_check 54 = .ok (.if_icmp .gt 24, 3) := by decide +kernel
theorem dX3_check_57 : decode cX3_check 57 = .ok (.aload_n 0, 1) := by decide +kernel
theorem dX3_check_58 : decode cX3_check 58 = .ok (.getfield 47, 3) := by decide +kernel
theorem dX3_check_61 : decode cX3_check 61 = .ok (.iconst 1, 1) := by decide +kernel
theorem dX3_check_62 : decode cX3_check 62 = .ok (.if_icmp .le 10, 3) := by decide +kernel
theorem dX3_check_65 : decode cX3_check 65 = .ok (.aload_n 0, 1) := by decide +kernel
theorem dX3_check_66 : decode cX3_check 66 = .ok (.getfield 35, 3) := by decide +kernel
theorem dX3_check_69 : decode cX3_check 69 = .ok (.invokevirtual 86, 3) := by decide +kernel
theorem dX3_check_72 : decode cX3_check 72 = .ok (.aload_n 0, 1) := by decide +kernel
theorem dX3_check_73 : decode cX3_check 73 = .ok (.invokevirtual 89, 3) := by decide +kernel
theorem dX3_check_76 : decode cX3_check 76 = .ok (.iconst 0, 1) := by decide +kernel
theorem dX3_check_77 : decode cX3_check 77 = .ok (.ireturn, 1) := by decide +kernel
theorem dX3_check_78 : decode cX3_check 78 = .ok (.aload_n 0, 1) := by decide +kernel
theorem dX3_check_79 : decode cX3_check 79 = .ok (.getfield 35, 3) := by decide +kernel
theorem dX3_check_82 : decode cX3_check 82 = .ok (.aload_n 0, 1) := by decide +kernel
theorem dX3_check_83 : decode cX3_check 83 = .ok (.getfield 21, 3) := by decide +kernel
theorem dX3_check_86 : decode cX3_check 86 = .ok (.aload_n 0, 1) := by decide +kernel
theorem dX3_check_87 : decode cX3_check 87 = .ok (.getfield 39, 3) := by decide +kernel
theorem dX3_check_90 : decode cX3_check 90 = .ok (.invokevirtual 92, 3) := by decide +kernel
theorem dX3_check_93 : decode cX3_check 93 = .ok (.aload_n 0, 1) := by decide +kernel
theorem dX3_check_94 : decode cX3_check 94 = .ok (.getfield 35, 3) := by decide +kernel
theorem dX3_check_97 : decode cX3_check 97 = .ok (.getfield 83, 3) := by decide +kernel
theorem dX3_check_100 : decode cX3_check 100 = .ok (.ireturn, 1) := by decide +kernel
set_option maxRecDepth 20000 in
theorem ggX3_cut_X3_goDown : GoodIn wsX3_cut wsX3_goDown := goodIn_r _ [6, 7, 1, 8, 9, 10, 11, 12, 13, 14, 15, 16, 17] rfl (by decide +kernel)
set_option maxRecDepth 20000 in
theorem gX3_cut_X3_goDown : GoodIn wsX3_cut (wsV RX3 89 RX3 yX3_goDown wsX3_goDown) := goodIn_app (goodIn_of _ (by decide +kernel)) ggX3_cut_X3_goDown
theorem dX3_cut_0 : decode cX3_cut 0 = .ok (.iload_n 1, 1) := by decide +kernel
theorem dX3_cut_1 : decode cX3_cut 1 = .ok (.ifCond .lt 9, 3) := by decide +kernel
theorem dX3_cut_4 : decode cX3_cut 4 = .ok (.iload_n 1, 1) := by decide +kernel
theorem dX3_cut_5 : decode cX3_cut 5 = .ok (.bipush 30, 2) := by decide +kernel
theorem dX3_cut_7 : decode cX3_cut 7 = .ok (.if_icmp .le 6, 3) := by decide +kernel
theorem dX3_cut_10 : decode cX3_cut 10 = .ok (.bipush (-4), 2) := by decide +kernel
theorem dX3_cut_12 : decode cX3_cut 12 = .ok (.ireturn, 1) := by decide +kernel
theorem dX3_cut_13 : decode cX3_cut 13 = .ok (.iload_n 1, 1) := by decide +kernel
theorem dX3_cut_14 : decode cX3_cut 14 = .ok (.ifCond .ne 10, 3) := by decide +kernel
theorem dX3_cut_17 : decode cX3_cut 17 = .ok (.aload_n 0, 1) := by decide +kernel
theorem dX3_cut_18 : decode cX3_cut 18 = .ok (.invokevirtual 89, 3) := by decide +kernel
theorem dX3_cut_21 : decode cX3_cut 21 = .ok (.goto 8, 3) := by decide +kernel
theorem dX3_cut_24 : decode cX3_cut 24 = .ok (.aload_n 0, 1) := by decide +kernel
theorem dX3_cut_25 : decode cX3_cut 25 = .ok (.iload_n 1, 1) := by decide +kernel
theorem dX3_cut_26 : decode cX3_cut 26 = .ok (.putfield 47, 3) := by decide +kernel
theorem dX3_cut_29 : decode cX3_cut 29 = .ok (.iconst 1, 1) := by decide +kernel
theorem dX3_cut_30 : decode cX3_cut 30 = .ok (.ireturn, 1) := by decide +kernel
set_option maxRecDepth 20000 in
theorem ggX3_restart_X0_latestWholeUpTo : GoodIn wsX3_restart wsX0_latestWholeUpTo := goodIn_r _ [12, 13, 14, 15, 16, 11, 17, 18, 60, 61, 62, 63, 64, 65, 66] rfl (by decide +kernel)
set_option maxRecDepth 20000 in
theorem gX3_restart_X0_latestWholeUpTo : GoodIn wsX3_restart (wsV RX3 96 RX0 yX0_latestWholeUpTo wsX0_latestWholeUpTo) := goodIn_app (goodIn_of _ (by decide +kernel)) ggX3_restart_X0_latestWholeUpTo
set_option maxRecDepth 20000 in
theorem ggX3_restart_X0_isPastAFilesEnd : GoodIn wsX3_restart wsX0_isPastAFilesEnd := goodIn_r _ [22, 23, 24, 25, 67, 68, 69, 70, 60, 61, 62, 63, 64, 65, 66] rfl (by decide +kernel)
set_option maxRecDepth 20000 in
theorem gX3_restart_X0_isPastAFilesEnd : GoodIn wsX3_restart (wsV RX3 103 RX0 yX0_isPastAFilesEnd wsX0_isPastAFilesEnd) := goodIn_app (goodIn_of _ (by decide +kernel)) ggX3_restart_X0_isPastAFilesEnd
set_option maxRecDepth 20000 in
theorem ggX3_restart_X0_putBack : GoodIn wsX3_restart wsX0_putBack := goodIn_r _ [29, 30, 31, 32, 33, 34, 35, 36, 25, 37, 38, 39, 40, 41, 42, 43, 44, 45, 46, 47, 48, 49, 50, 60, 61, 62, 63, 64, 65, 66, 71, 72, 73, 74, 67, 68, 69, 70] rfl (by decide +kernel)
set_option maxRecDepth 20000 in
theorem gX3_restart_X0_putBack : GoodIn wsX3_restart (wsV RX3 107 RX0 yX0_putBack wsX0_putBack) := goodIn_app (goodIn_of _ (by decide +kernel)) ggX3_restart_X0_putBack
theorem dX3_restart_0 : decode cX3_restart 0 = .ok (.aload_n 0, 1) := by decide +kernel
theorem dX3_restart_1 : decode cX3_restart 1 = .ok (.getfield 43, 3) := by decide +kernel
theorem dX3_restart_4 : decode cX3_restart 4 = .ok (.ifCond .ne 6, 3) := by decide +kernel
theorem dX3_restart_7 : decode cX3_restart 7 = .ok (.bipush (-5), 2) := by decide +kernel
theorem dX3_restart_9 : decode cX3_restart 9 = .ok (.ireturn, 1) := by decide +kernel
theorem dX3_restart_10 : decode cX3_restart 10 = .ok (.aload_n 0, 1) := by decide +kernel
theorem dX3_restart_11 : decode cX3_restart 11 = .ok (.getfield 35, 3) := by decide +kernel
theorem dX3_restart_14 : decode cX3_restart 14 = .ok (.iload_n 1, 1) := by decide +kernel
theorem dX3_restart_15 : decode cX3_restart 15 = .ok (.invokevirtual 96, 3) := by decide +kernel
theorem dX3_restart_18 : decode cX3_restart 18 = .ok (.istore_n 2, 1) := by decide +kernel
theorem dX3_restart_19 : decode cX3_restart 19 = .ok (.iload_n 2, 1) := by decide +kernel
theorem dX3_restart_20 : decode cX3_restart 20 = .ok (.iconst (-1), 1) := by decide +kernel
theorem dX3_restart_21 : decode cX3_restart 21 = .ok (.if_icmp .ne 5, 3) := by decide +kernel
theorem dX3_restart_24 : decode cX3_restart 24 = .ok (.iconst (-1), 1) := by decide +kernel
theorem dX3_restart_25 : decode cX3_restart 25 = .ok (.ireturn, 1) := by decide +kernel
theorem dX3_restart_26 : decode cX3_restart 26 = .ok (.aload_n 0, 1) := by decide +kernel
theorem dX3_restart_27 : decode cX3_restart 27 = .ok (.getfield 35, 3) := by decide +kernel
theorem dX3_restart_30 : decode cX3_restart 30 = .ok (.getfield 100, 3) := by decide +kernel
theorem dX3_restart_33 : decode cX3_restart 33 = .ok (.iload_n 2, 1) := by decide +kernel
theorem dX3_restart_34 : decode cX3_restart 34 = .ok (.iconst 1, 1) := by decide +kernel
theorem dX3_restart_35 : decode cX3_restart 35 = .ok (.isub, 1) := by decide +kernel
theorem dX3_restart_36 : decode cX3_restart 36 = .ok (.iaload, 1) := by decide +kernel
theorem dX3_restart_37 : decode cX3_restart 37 = .ok (.aload_n 0, 1) := by decide +kernel
theorem dX3_restart_38 : decode cX3_restart 38 = .ok (.getfield 39, 3) := by decide +kernel
theorem dX3_restart_41 : decode cX3_restart 41 = .ok (.if_icmp .eq 6, 3) := by decide +kernel
theorem dX3_restart_44 : decode cX3_restart 44 = .ok (.bipush (-3), 2) := by decide +kernel
theorem dX3_restart_46 : decode cX3_restart 46 = .ok (.ireturn, 1) := by decide +kernel
theorem dX3_restart_47 : decode cX3_restart 47 = .ok (.aload_n 0, 1) := by decide +kernel
theorem dX3_restart_48 : decode cX3_restart 48 = .ok (.getfield 35, 3) := by decide +kernel
theorem dX3_restart_51 : decode cX3_restart 51 = .ok (.iload_n 2, 1) := by decide +kernel
theorem dX3_restart_52 : decode cX3_restart 52 = .ok (.aload_n 0, 1) := by decide +kernel
theorem dX3_restart_53 : decode cX3_restart 53 = .ok (.getfield 10, 3) := by decide +kernel
theorem dX3_restart_56 : decode cX3_restart 56 = .ok (.invokevirtual 103, 3) := by decide +kernel
theorem dX3_restart_59 : decode cX3_restart 59 = .ok (.ifCond .eq 6, 3) := by decide +kernel
theorem dX3_restart_62 : decode cX3_restart 62 = .ok (.bipush (-2), 2) := by decide +kernel
theorem dX3_restart_64 : decode cX3_restart 64 = .ok (.ireturn, 1) := by decide +kernel
theorem dX3_restart_65 : decode cX3_restart 65 = .ok (.aload_n 0, 1) := by decide +kernel
theorem dX3_restart_66 : decode cX3_restart 66 = .ok (.getfield 35, 3) := by decide +kernel
theorem dX3_restart_69 : decode cX3_restart 69 = .ok (.iload_n 2, 1) := by decide +kernel
theorem dX3_restart_70 : decode cX3_restart 70 = .ok (.aload_n 0, 1) := by decide +kernel
theorem dX3_restart_71 : decode cX3_restart 71 = .ok (.getfield 21, 3) := by decide +kernel
theorem dX3_restart_74 : decode cX3_restart 74 = .ok (.invokevirtual 107, 3) := by decide +kernel
theorem dX3_restart_77 : decode cX3_restart 77 = .ok (.aload_n 0, 1) := by decide +kernel
theorem dX3_restart_78 : decode cX3_restart 78 = .ok (.getfield 35, 3) := by decide +kernel
theorem dX3_restart_81 : decode cX3_restart 81 = .ok (.iload_n 2, 1) := by decide +kernel
theorem dX3_restart_82 : decode cX3_restart 82 = .ok (.putfield 83, 3) := by decide +kernel
theorem dX3_restart_85 : decode cX3_restart 85 = .ok (.aload_n 0, 1) := by decide +kernel
theorem dX3_restart_86 : decode cX3_restart 86 = .ok (.iconst 0, 1) := by decide +kernel
theorem dX3_restart_87 : decode cX3_restart 87 = .ok (.putfield 43, 3) := by decide +kernel
theorem dX3_restart_90 : decode cX3_restart 90 = .ok (.iload_n 2, 1) := by decide +kernel
theorem dX3_restart_91 : decode cX3_restart 91 = .ok (.ireturn, 1) := by decide +kernel
theorem dX3_get_0 : decode cX3_get 0 = .ok (.iload_n 1, 1) := by decide +kernel
theorem dX3_get_1 : decode cX3_get 1 = .ok (.ifCond .lt 14, 3) := by decide +kernel
theorem dX3_get_4 : decode cX3_get 4 = .ok (.iload_n 1, 1) := by decide +kernel
theorem dX3_get_5 : decode cX3_get 5 = .ok (.aload_n 0, 1) := by decide +kernel
theorem dX3_get_6 : decode cX3_get 6 = .ok (.getfield 10, 3) := by decide +kernel
theorem dX3_get_9 : decode cX3_get 9 = .ok (.getfield 57, 3) := by decide +kernel
theorem dX3_get_12 : decode cX3_get 12 = .ok (.if_icmp .lt 13, 3) := by decide +kernel
theorem dX3_get_15 : decode cX3_get 15 = .ok (.new 111, 3) := by decide +kernel
theorem dX3_get_18 : decode cX3_get 18 = .ok (.dup, 1) := by decide +kernel
theorem dX3_get_19 : decode cX3_get 19 = .ok (.ldc 113, 2) := by decide +kernel
theorem dX3_get_21 : decode cX3_get 21 = .ok (.invokespecial 115, 3) := by decide +kernel
theorem dX3_get_24 : decode cX3_get 24 = .ok (.athrow, 1) := by decide +kernel
theorem dX3_get_25 : decode cX3_get 25 = .ok (.aload_n 0, 1) := by decide +kernel
theorem dX3_get_26 : decode cX3_get 26 = .ok (.getfield 21, 3) := by decide +kernel
theorem dX3_get_29 : decode cX3_get 29 = .ok (.getfield 63, 3) := by decide +kernel
theorem dX3_get_32 : decode cX3_get 32 = .ok (.iload_n 1, 1) := by decide +kernel
theorem dX3_get_33 : decode cX3_get 33 = .ok (.laload, 1) := by decide +kernel
theorem dX3_get_34 : decode cX3_get 34 = .ok (.lreturn, 1) := by decide +kernel
set_option maxRecDepth 20000 in
theorem ggX3_position_X1_hasFile : GoodIn wsX3_position wsX1_hasFile := goodIn_r _ [8, 9, 23, 24, 25, 26] rfl (by decide +kernel)
set_option maxRecDepth 20000 in
theorem gX3_position_X1_hasFile : GoodIn wsX3_position (wsV RX3 118 RX1 yX1_hasFile wsX1_hasFile) := goodIn_app (goodIn_of _ (by decide +kernel)) ggX3_position_X1_hasFile
theorem dX3_position_0 : decode cX3_position 0 = .ok (.aload_n 0, 1) := by decide +kernel
theorem dX3_position_1 : decode cX3_position 1 = .ok (.getfield 10, 3) := by decide +kernel
theorem dX3_position_4 : decode cX3_position 4 = .ok (.iload_n 1, 1) := by decide +kernel
theorem dX3_position_5 : decode cX3_position 5 = .ok (.invokevirtual 118, 3) := by decide +kernel
theorem dX3_position_8 : decode cX3_position 8 = .ok (.ifCond .eq 15, 3) := by decide +kernel
theorem dX3_position_11 : decode cX3_position 11 = .ok (.aload_n 0, 1) := by decide +kernel
theorem dX3_position_12 : decode cX3_position 12 = .ok (.getfield 21, 3) := by decide +kernel
theorem dX3_position_15 : decode cX3_position 15 = .ok (.getfield 122, 3) := by decide +kernel
theorem dX3_position_18 : decode cX3_position 18 = .ok (.iload_n 1, 1) := by decide +kernel
theorem dX3_position_19 : decode cX3_position 19 = .ok (.iaload, 1) := by decide +kernel
theorem dX3_position_20 : decode cX3_position 20 = .ok (.goto 4, 3) := by decide +kernel
theorem dX3_position_23 : decode cX3_position 23 = .ok (.iconst (-1), 1) := by decide +kernel
theorem dX3_position_24 : decode cX3_position 24 = .ok (.ireturn, 1) := by decide +kernel
set_option maxRecDepth 20000 in
theorem ggX3_grow_X1_hasFile : GoodIn wsX3_grow wsX1_hasFile := goodIn_r _ [8, 9, 19, 20, 21, 22] rfl (by decide +kernel)
set_option maxRecDepth 20000 in
theorem gX3_grow_X1_hasFile : GoodIn wsX3_grow (wsV RX3 118 RX1 yX1_hasFile wsX1_hasFile) := goodIn_app (goodIn_of _ (by decide +kernel)) ggX3_grow_X1_hasFile
theorem dX3_grow_0 : decode cX3_grow 0 = .ok (.aload_n 0, 1) := by decide +kernel
theorem dX3_grow_1 : decode cX3_grow 1 = .ok (.getfield 10, 3) := by decide +kernel
theorem dX3_grow_4 : decode cX3_grow 4 = .ok (.iload_n 1, 1) := by decide +kernel
theorem dX3_grow_5 : decode cX3_grow 5 = .ok (.invokevirtual 118, 3) := by decide +kernel
theorem dX3_grow_8 : decode cX3_grow 8 = .ok (.ifCond .ne 5, 3) := by decide +kernel
theorem dX3_grow_11 : decode cX3_grow 11 = .ok (.iconst (-1), 1) := by decide +kernel
theorem dX3_grow_12 : decode cX3_grow 12 = .ok (.ireturn, 1) := by decide +kernel
theorem dX3_grow_13 : decode cX3_grow 13 = .ok (.aload_n 0, 1) := by decide +kernel
theorem dX3_grow_14 : decode cX3_grow 14 = .ok (.getfield 10, 3) := by decide +kernel
theorem dX3_grow_17 : decode cX3_grow 17 = .ok (.getfield 69, 3) := by decide +kernel
theorem dX3_grow_20 : decode cX3_grow 20 = .ok (.iload_n 1, 1) := by decide +kernel
theorem dX3_grow_21 : decode cX3_grow 21 = .ok (.iaload, 1) := by decide +kernel
theorem dX3_grow_22 : decode cX3_grow 22 = .ok (.i2l, 1) := by decide +kernel
theorem dX3_grow_23 : decode cX3_grow 23 = .ok (.iload_n 2, 1) := by decide +kernel
theorem dX3_grow_24 : decode cX3_grow 24 = .ok (.i2l, 1) := by decide +kernel
theorem dX3_grow_25 : decode cX3_grow 25 = .ok (.ladd, 1) := by decide +kernel
theorem dX3_grow_26 : decode cX3_grow 26 = .ok (.lstore_n 3, 1) := by decide +kernel
theorem dX3_grow_27 : decode cX3_grow 27 = .ok (.lload_n 3, 1) := by decide +kernel
theorem dX3_grow_28 : decode cX3_grow 28 = .ok (.lconst 0, 1) := by decide +kernel
theorem dX3_grow_29 : decode cX3_grow 29 = .ok (.lcmp, 1) := by decide +kernel
theorem dX3_grow_30 : decode cX3_grow 30 = .ok (.ifCond .lt 11, 3) := by decide +kernel
theorem dX3_grow_33 : decode cX3_grow 33 = .ok (.lload_n 3, 1) := by decide +kernel
theorem dX3_grow_34 : decode cX3_grow 34 = .ok (.ldc2_w 125, 3) := by decide +kernel
theorem dX3_grow_37 : decode cX3_grow 37 = .ok (.lcmp, 1) := by decide +kernel
theorem dX3_grow_38 : decode cX3_grow 38 = .ok (.ifCond .le 6, 3) := by decide +kernel
theorem dX3_grow_41 : decode cX3_grow 41 = .ok (.bipush (-4), 2) := by decide +kernel
theorem dX3_grow_43 : decode cX3_grow 43 = .ok (.ireturn, 1) := by decide +kernel
theorem dX3_grow_44 : decode cX3_grow 44 = .ok (.aload_n 0, 1) := by decide +kernel
theorem dX3_grow_45 : decode cX3_grow 45 = .ok (.getfield 10, 3) := by decide +kernel
theorem dX3_grow_48 : decode cX3_grow 48 = .ok (.getfield 69, 3) := by decide +kernel
theorem dX3_grow_51 : decode cX3_grow 51 = .ok (.iload_n 1, 1) := by decide +kernel
theorem dX3_grow_52 : decode cX3_grow 52 = .ok (.lload_n 3, 1) := by decide +kernel
theorem dX3_grow_53 : decode cX3_grow 53 = .ok (.l2i, 1) := by decide +kernel
theorem dX3_grow_54 : decode cX3_grow 54 = .ok (.iastore, 1) := by decide +kernel
theorem dX3_grow_55 : decode cX3_grow 55 = .ok (.aload_n 0, 1) := by decide +kernel
theorem dX3_grow_56 : decode cX3_grow 56 = .ok (.getfield 10, 3) := by decide +kernel
theorem dX3_grow_59 : decode cX3_grow 59 = .ok (.getfield 69, 3) := by decide +kernel
theorem dX3_grow_62 : decode cX3_grow 62 = .ok (.iload_n 1, 1) := by decide +kernel
theorem dX3_grow_63 : decode cX3_grow 63 = .ok (.iaload, 1) := by decide +kernel
theorem dX3_grow_64 : decode cX3_grow 64 = .ok (.ireturn, 1) := by decide +kernel
theorem dX3_edition_0 : decode cX3_edition 0 = .ok (.aload_n 0, 1) := by decide +kernel
theorem dX3_edition_1 : decode cX3_edition 1 = .ok (.getfield 39, 3) := by decide +kernel
theorem dX3_edition_4 : decode cX3_edition 4 = .ok (.istore_n 2, 1) := by decide +kernel
theorem dX3_edition_5 : decode cX3_edition 5 = .ok (.aload_n 0, 1) := by decide +kernel
theorem dX3_edition_6 : decode cX3_edition 6 = .ok (.iload_n 1, 1) := by decide +kernel
theorem dX3_edition_7 : decode cX3_edition 7 = .ok (.putfield 39, 3) := by decide +kernel
theorem dX3_edition_10 : decode cX3_edition 10 = .ok (.iload_n 2, 1) := by decide +kernel
theorem dX3_edition_11 : decode cX3_edition 11 = .ok (.ireturn, 1) := by decide +kernel
set_option maxRecDepth 20000 in
theorem ggX3_output_X3_hasRow : GoodIn wsX3_output wsX3_hasRow := goodIn_r _ [6, 7, 8, 9, 10, 11, 12, 13, 14, 15, 16, 17, 18, 19, 20, 21] rfl (by decide +kernel)
set_option maxRecDepth 20000 in
theorem gX3_output_X3_hasRow : GoodIn wsX3_output (wsV RX3 127 RX3 yX3_hasRow wsX3_hasRow) := goodIn_app (goodIn_of _ (by decide +kernel)) ggX3_output_X3_hasRow
theorem dX3_output_0 : decode cX3_output 0 = .ok (.aload_n 0, 1) := by decide +kernel
theorem dX3_output_1 : decode cX3_output 1 = .ok (.iload_n 1, 1) := by decide +kernel
theorem dX3_output_2 : decode cX3_output 2 = .ok (.invokevirtual 127, 3) := by decide +kernel
theorem dX3_output_5 : decode cX3_output 5 = .ok (.ifCond .eq 13, 3) := by decide +kernel
theorem dX3_output_8 : decode cX3_output 8 = .ok (.aload_n 0, 1) := by decide +kernel
theorem dX3_output_9 : decode cX3_output 9 = .ok (.getfield 28, 3) := by decide +kernel
theorem dX3_output_12 : decode cX3_output 12 = .ok (.iload_n 1, 1) := by decide +kernel
theorem dX3_output_13 : decode cX3_output 13 = .ok (.laload, 1) := by decide +kernel
theorem dX3_output_14 : decode cX3_output 14 = .ok (.l2i, 1) := by decide +kernel
theorem dX3_output_15 : decode cX3_output 15 = .ok (.goto 4, 3) := by decide +kernel
theorem dX3_output_18 : decode cX3_output 18 = .ok (.iconst 0, 1) := by decide +kernel
theorem dX3_output_19 : decode cX3_output 19 = .ok (.ireturn, 1) := by decide +kernel
set_option maxRecDepth 20000 in
theorem ggX3_torn_X0_has : GoodIn wsX3_torn wsX0_has := goodIn_r _ [7, 8, 22, 23, 24, 25, 26, 27, 28] rfl (by decide +kernel)
set_option maxRecDepth 20000 in
theorem gX3_torn_X0_has : GoodIn wsX3_torn (wsV RX3 130 RX0 yX0_has wsX0_has) := goodIn_app (goodIn_of _ (by decide +kernel)) ggX3_torn_X0_has
set_option maxRecDepth 20000 in
theorem ggX3_torn_X3_asNumber : GoodIn wsX3_torn wsX3_asNumber := goodIn_r _ [12] rfl (by decide +kernel)
set_option maxRecDepth 20000 in
theorem gX3_torn_X3_asNumber : GoodIn wsX3_torn (va_wsS RX3 137 yX3_asNumber wsX3_asNumber) := goodIn_app (goodIn_of _ (by decide +kernel)) ggX3_torn_X3_asNumber
theorem dX3_torn_0 : decode cX3_torn 0 = .ok (.aload_n 0, 1) := by decide +kernel
theorem dX3_torn_1 : decode cX3_torn 1 = .ok (.getfield 35, 3) := by decide +kernel
theorem dX3_torn_4 : decode cX3_torn 4 = .ok (.iload_n 1, 1) := by decide +kernel
theorem dX3_torn_5 : decode cX3_torn 5 = .ok (.invokevirtual 130, 3) := by decide +kernel
theorem dX3_torn_8 : decode cX3_torn 8 = .ok (.ifCond .ne 5, 3) := by decide +kernel
theorem dX3_torn_11 : decode cX3_torn 11 = .ok (.iconst (-1), 1) := by decide +kernel
theorem dX3_torn_12 : decode cX3_torn 12 = .ok (.ireturn, 1) := by decide +kernel
theorem dX3_torn_13 : decode cX3_torn 13 = .ok (.aload_n 0, 1) := by decide +kernel
theorem dX3_torn_14 : decode cX3_torn 14 = .ok (.getfield 35, 3) := by decide +kernel
theorem dX3_torn_17 : decode cX3_torn 17 = .ok (.getfield 133, 3) := by decide +kernel
theorem dX3_torn_20 : decode cX3_torn 20 = .ok (.iload_n 1, 1) := by decide +kernel
theorem dX3_torn_21 : decode cX3_torn 21 = .ok (.iconst 1, 1) := by decide +kernel
theorem dX3_torn_22 : decode cX3_torn 22 = .ok (.isub, 1) := by decide +kernel
theorem dX3_torn_23 : decode cX3_torn 23 = .ok (.baload, 1) := by decide +kernel
theorem dX3_torn_24 : decode cX3_torn 24 = .ok (.ifCond .ne 7, 3) := by decide +kernel
theorem dX3_torn_27 : decode cX3_torn 27 = .ok (.iconst 1, 1) := by decide +kernel
theorem dX3_torn_28 : decode cX3_torn 28 = .ok (.goto 4, 3) := by decide +kernel
theorem dX3_torn_31 : decode cX3_torn 31 = .ok (.iconst 0, 1) := by decide +kernel
theorem dX3_torn_32 : decode cX3_torn 32 = .ok (.invokestatic 137, 3) := by decide +kernel
theorem dX3_torn_35 : decode cX3_torn 35 = .ok (.ireturn, 1) := by decide +kernel
set_option maxRecDepth 20000 in
theorem ggX3_row_X3_hasRow : GoodIn wsX3_row wsX3_hasRow := goodIn_r _ [9, 10, 11, 18, 19, 20, 21, 22, 23, 24, 25, 26, 27, 28, 29, 30] rfl (by decide +kernel)
set_option maxRecDepth 20000 in
theorem gX3_row_X3_hasRow : GoodIn wsX3_row (wsV RX3 127 RX3 yX3_hasRow wsX3_hasRow) := goodIn_app (goodIn_of _ (by decide +kernel)) ggX3_row_X3_hasRow
theorem dX3_row_0 : decode cX3_row 0 = .ok (.aload_n 0, 1) := by decide +kernel
theorem dX3_row_1 : decode cX3_row 1 = .ok (.iload_n 1, 1) := by decide +kernel
theorem dX3_row_2 : decode cX3_row 2 = .ok (.invokevirtual 127, 3) := by decide +kernel
theorem dX3_row_5 : decode cX3_row 5 = .ok (.ifCond .ne 13, 3) := by decide +kernel
theorem dX3_row_8 : decode cX3_row 8 = .ok (.new 141, 3) := by decide +kernel
theorem dX3_row_11 : decode cX3_row 11 = .ok (.dup, 1) := by decide +kernel
theorem dX3_row_12 : decode cX3_row 12 = .ok (.ldc 143, 2) := by decide +kernel
theorem dX3_row_14 : decode cX3_row 14 = .ok (.invokespecial 145, 3) := by decide +kernel
theorem dX3_row_17 : decode cX3_row 17 = .ok (.athrow, 1) := by decide +kernel
theorem dX3_row_18 : decode cX3_row 18 = .ok (.aload_n 0, 1) := by decide +kernel
theorem dX3_row_19 : decode cX3_row 19 = .ok (.getfield 28, 3) := by decide +kernel
theorem dX3_row_22 : decode cX3_row 22 = .ok (.iload_n 1, 1) := by decide +kernel
theorem dX3_row_23 : decode cX3_row 23 = .ok (.laload, 1) := by decide +kernel
theorem dX3_row_24 : decode cX3_row 24 = .ok (.bipush 32, 2) := by decide +kernel
theorem dX3_row_26 : decode cX3_row 26 = .ok (.lshr, 1) := by decide +kernel
theorem dX3_row_27 : decode cX3_row 27 = .ok (.l2i, 1) := by decide +kernel
theorem dX3_row_28 : decode cX3_row 28 = .ok (.ireturn, 1) := by decide +kernel
set_option maxRecDepth 20000 in
theorem ggX3_equal_X2_startOver : GoodIn wsX3_equal wsX2_startOver := goodIn_r _ [9, 10, 11, 12, 13, 14, 15, 44, 45, 46, 47, 48, 49, 50, 51] rfl (by decide +kernel)
set_option maxRecDepth 20000 in
theorem gX3_equal_X2_startOver : GoodIn wsX3_equal (wsV RX3 146 RX2 yX2_startOver wsX2_startOver) := goodIn_app (goodIn_of _ (by decide +kernel)) ggX3_equal_X2_startOver
set_option maxRecDepth 20000 in
theorem ggX3_equal_X2_isEnded : GoodIn wsX3_equal wsX2_isEnded := goodIn_r _ [19, 10, 20, 14, 21, 44, 45, 46, 47, 48, 49, 50, 51] rfl (by decide +kernel)
set_option maxRecDepth 20000 in
theorem gX3_equal_X2_isEnded : GoodIn wsX3_equal (wsV RX3 76 RX2 yX2_isEnded wsX2_isEnded) := goodIn_app (goodIn_of _ (by decide +kernel)) ggX3_equal_X2_isEnded
set_option maxRecDepth 20000 in
theorem ggX3_equal_X2_doUnit : GoodIn wsX3_equal wsX2_doUnit := goodIn_r _ [25, 15, 10, 11, 12, 26, 27, 28, 8, 29, 20, 14, 21, 30, 44, 45, 46, 47, 48, 49, 50, 51] rfl (by decide +kernel)
set_option maxRecDepth 20000 in
theorem gX3_equal_X2_doUnit : GoodIn wsX3_equal (wsV RX3 79 RX2 yX2_doUnit wsX2_doUnit) := goodIn_app (goodIn_of _ (by decide +kernel)) ggX3_equal_X2_doUnit
set_option maxRecDepth 20000 in
theorem ggX3_equal_X2_hasCellsOf : GoodIn wsX3_equal wsX2_hasCellsOf := goodIn_r _ [34, 10, 11, 12, 44, 45, 46, 47, 48, 49, 50, 51] rfl (by decide +kernel)
set_option maxRecDepth 20000 in
theorem gX3_equal_X2_hasCellsOf : GoodIn wsX3_equal (wsV RX3 149 RX2 yX2_hasCellsOf wsX2_hasCellsOf) := goodIn_app (goodIn_of _ (by decide +kernel)) ggX3_equal_X2_hasCellsOf
theorem dX3_equal_0 : decode cX3_equal 0 = .ok (.aload_n 0, 1) := by decide +kernel
theorem dX3_equal_1 : decode cX3_equal 1 = .ok (.getfield 25, 3) := by decide +kernel
theorem dX3_equal_4 : decode cX3_equal 4 = .ok (.invokevirtual 146, 3) := by decide +kernel
theorem dX3_equal_7 : decode cX3_equal 7 = .ok (.iconst 0, 1) := by decide +kernel
theorem dX3_equal_8 : decode cX3_equal 8 = .ok (.istore_n 1, 1) := by decide +kernel
theorem dX3_equal_9 : decode cX3_equal 9 = .ok (.iload_n 1, 1) := by decide +kernel
theorem dX3_equal_10 : decode cX3_equal 10 = .ok (.aload_n 0, 1) := by decide +kernel
theorem dX3_equal_11 : decode cX3_equal 11 = .ok (.getfield 21, 3) := by decide +kernel
theorem dX3_equal_14 : decode cX3_equal 14 = .ok (.getfield 73, 3) := by decide +kernel
theorem dX3_equal_17 : decode cX3_equal 17 = .ok (.if_icmp .ge 38, 3) := by decide +kernel
theorem dX3_equal_20 : decode cX3_equal 20 = .ok (.aload_n 0, 1) := by decide +kernel
theorem dX3_equal_21 : decode cX3_equal 21 = .ok (.getfield 25, 3) := by decide +kernel
theorem dX3_equal_24 : decode cX3_equal 24 = .ok (.invokevirtual 76, 3) := by decide +kernel
theorem dX3_equal_27 : decode cX3_equal 27 = .ok (.ifCond .ne 20, 3) := by decide +kernel
theorem dX3_equal_30 : decode cX3_equal 30 = .ok (.aload_n 0, 1) := by decide +kernel
theorem dX3_equal_31 : decode cX3_equal 31 = .ok (.getfield 25, 3) := by decide +kernel
theorem dX3_equal_34 : decode cX3_equal 34 = .ok (.invokevirtual 79, 3) := by decide +kernel
theorem dX3_equal_37 : decode cX3_equal 37 = .ok (.aload_n 0, 1) := by decide +kernel
theorem dX3_equal_38 : decode cX3_equal 38 = .ok (.getfield 28, 3) := by decide +kernel
theorem dX3_equal_41 : decode cX3_equal 41 = .ok (.iload_n 1, 1) := by decide +kernel
theorem dX3_equal_42 : decode cX3_equal 42 = .ok (.laload, 1) := by decide +kernel
theorem dX3_equal_43 : decode cX3_equal 43 = .ok (.lcmp, 1) := by decide +kernel
theorem dX3_equal_44 : decode cX3_equal 44 = .ok (.ifCond .eq 5, 3) := by decide +kernel
theorem dX3_equal_47 : decode cX3_equal 47 = .ok (.iconst 0, 1) := by decide +kernel
theorem dX3_equal_48 : decode cX3_equal 48 = .ok (.ireturn, 1) := by decide +kernel
theorem dX3_equal_49 : decode cX3_equal 49 = .ok (.iinc 1 1, 3) := by decide +kernel
theorem dX3_equal_52 : decode cX3_equal 52 = .ok (.goto (-43), 3) := by decide +kernel
theorem dX3_equal_55 : decode cX3_equal 55 = .ok (.aload_n 0, 1) := by decide +kernel
theorem dX3_equal_56 : decode cX3_equal 56 = .ok (.getfield 21, 3) := by decide +kernel
theorem dX3_equal_59 : decode cX3_equal 59 = .ok (.aload_n 0, 1) := by decide +kernel
theorem dX3_equal_60 : decode cX3_equal 60 = .ok (.getfield 25, 3) := by decide +kernel
theorem dX3_equal_63 : decode cX3_equal 63 = .ok (.invokevirtual 149, 3) := by decide +kernel
theorem dX3_equal_66 : decode cX3_equal 66 = .ok (.ireturn, 1) := by decide +kernel
set_option maxRecDepth 20000 in
theorem ggX3_count_X3_asNumber : GoodIn wsX3_count wsX3_asNumber := goodIn_r _ [13] rfl (by decide +kernel)
set_option maxRecDepth 20000 in
theorem gX3_count_X3_asNumber : GoodIn wsX3_count (va_wsS RX3 137 yX3_asNumber wsX3_asNumber) := goodIn_app (goodIn_of _ (by decide +kernel)) ggX3_count_X3_asNumber
set_option maxRecDepth 20000 in
theorem ggX3_count_X2_isEnded : GoodIn wsX3_count wsX2_isEnded := goodIn_r _ [18, 19, 20, 21, 22, 36, 37, 38, 39, 32, 33, 34, 35] rfl (by decide +kernel)
set_option maxRecDepth 20000 in
theorem gX3_count_X2_isEnded : GoodIn wsX3_count (wsV RX3 76 RX2 yX2_isEnded wsX2_isEnded) := goodIn_app (goodIn_of _ (by decide +kernel)) ggX3_count_X2_isEnded
theorem dX3_count_0 : decode cX3_count 0 = .ok (.iload_n 1, 1) := by decide +kernel
theorem dX3_count_1 : decode cX3_count 1 = .ok (.tableswitch 99 0 6 #[43, 51, 59, 67, 75, 83, 94], 43) := by decide +kernel
theorem dX3_count_44 : decode cX3_count 44 = .ok (.aload_n 0, 1) := by decide +kernel
theorem dX3_count_45 : decode cX3_count 45 = .ok (.getfield 10, 3) := by decide +kernel
theorem dX3_count_48 : decode cX3_count 48 = .ok (.getfield 57, 3) := by decide +kernel
theorem dX3_count_51 : decode cX3_count 51 = .ok (.ireturn, 1) := by decide +kernel
theorem dX3_count_52 : decode cX3_count 52 = .ok (.aload_n 0, 1) := by decide +kernel
theorem dX3_count_53 : decode cX3_count 53 = .ok (.getfield 10, 3) := by decide +kernel
theorem dX3_count_56 : decode cX3_count 56 = .ok (.getfield 66, 3) := by decide +kernel
theorem dX3_count_59 : decode cX3_count 59 = .ok (.ireturn, 1) := by decide +kernel
theorem dX3_count_60 : decode cX3_count 60 = .ok (.aload_n 0, 1) := by decide +kernel
theorem dX3_count_61 : decode cX3_count 61 = .ok (.getfield 21, 3) := by decide +kernel
theorem dX3_count_64 : decode cX3_count 64 = .ok (.getfield 73, 3) := by decide +kernel
theorem dX3_count_67 : decode cX3_count 67 = .ok (.ireturn, 1) := by decide +kernel
theorem dX3_count_68 : decode cX3_count 68 = .ok (.aload_n 0, 1) := by decide +kernel
theorem dX3_count_69 : decode cX3_count 69 = .ok (.getfield 35, 3) := by decide +kernel
theorem dX3_count_72 : decode cX3_count 72 = .ok (.getfield 83, 3) := by decide +kernel
theorem dX3_count_75 : decode cX3_count 75 = .ok (.ireturn, 1) := by decide +kernel
theorem dX3_count_76 : decode cX3_count 76 = .ok (.aload_n 0, 1) := by decide +kernel
theorem dX3_count_77 : decode cX3_count 77 = .ok (.getfield 43, 3) := by decide +kernel
theorem dX3_count_80 : decode cX3_count 80 = .ok (.invokestatic 137, 3) := by decide +kernel
theorem dX3_count_83 : decode cX3_count 83 = .ok (.ireturn, 1) := by decide +kernel
theorem dX3_count_84 : decode cX3_count 84 = .ok (.aload_n 0, 1) := by decide +kernel
theorem dX3_count_85 : decode cX3_count 85 = .ok (.getfield 21, 3) := by decide +kernel
theorem dX3_count_88 : decode cX3_count 88 = .ok (.invokevirtual 76, 3) := by decide +kernel
theorem dX3_count_91 : decode cX3_count 91 = .ok (.invokestatic 137, 3) := by decide +kernel
theorem dX3_count_94 : decode cX3_count 94 = .ok (.ireturn, 1) := by decide +kernel
theorem dX3_count_95 : decode cX3_count 95 = .ok (.aload_n 0, 1) := by decide +kernel
theorem dX3_count_96 : decode cX3_count 96 = .ok (.getfield 50, 3) := by decide +kernel
theorem dX3_count_99 : decode cX3_count 99 = .ok (.ireturn, 1) := by decide +kernel
theorem dX3_count_100 : decode cX3_count 100 = .ok (.iconst (-1), 1) := by decide +kernel
theorem dX3_count_101 : decode cX3_count 101 = .ok (.ireturn, 1) := by decide +kernel
theorem dX3_isSetupOver_0 : decode cX3_isSetupOver 0 = .ok (.aload_n 0, 1) := by decide +kernel
theorem dX3_isSetupOver_1 : decode cX3_isSetupOver 1 = .ok (.getfield 43, 3) := by decide +kernel
theorem dX3_isSetupOver_4 : decode cX3_isSetupOver 4 = .ok (.ifCond .ne 13, 3) := by decide +kernel
theorem dX3_isSetupOver_7 : decode cX3_isSetupOver 7 = .ok (.aload_n 0, 1) := by decide +kernel
theorem dX3_isSetupOver_8 : decode cX3_isSetupOver 8 = .ok (.getfield 21, 3) := by decide +kernel
theorem dX3_isSetupOver_11 : decode cX3_isSetupOver 11 = .ok (.getfield 73, 3) := by decide +kernel
theorem dX3_isSetupOver_14 : decode cX3_isSetupOver 14 = .ok (.ifCond .le 7, 3) := by decide +kernel
theorem dX3_isSetupOver_17 : decode cX3_isSetupOver 17 = .ok (.iconst 1, 1) := by decide +kernel
theorem dX3_isSetupOver_18 : decode cX3_isSetupOver 18 = .ok (.goto 4, 3) := by decide +kernel
theorem dX3_isSetupOver_21 : decode cX3_isSetupOver 21 = .ok (.iconst 0, 1) := by decide +kernel
theorem dX3_isSetupOver_22 : decode cX3_isSetupOver 22 = .ok (.ireturn, 1) := by decide +kernel
theorem dX3_goDown_0 : decode cX3_goDown 0 = .ok (.aload_n 0, 1) := by decide +kernel
theorem dX3_goDown_1 : decode cX3_goDown 1 = .ok (.iconst 1, 1) := by decide +kernel
theorem dX3_goDown_2 : decode cX3_goDown 2 = .ok (.putfield 43, 3) := by decide +kernel
theorem dX3_goDown_5 : decode cX3_goDown 5 = .ok (.aload_n 0, 1) := by decide +kernel
theorem dX3_goDown_6 : decode cX3_goDown 6 = .ok (.iconst 0, 1) := by decide +kernel
theorem dX3_goDown_7 : decode cX3_goDown 7 = .ok (.putfield 47, 3) := by decide +kernel
theorem dX3_goDown_10 : decode cX3_goDown 10 = .ok (.aload_n 0, 1) := by decide +kernel
theorem dX3_goDown_11 : decode cX3_goDown 11 = .ok (.dup, 1) := by decide +kernel
theorem dX3_goDown_12 : decode cX3_goDown 12 = .ok (.getfield 50, 3) := by decide +kernel
theorem dX3_goDown_15 : decode cX3_goDown 15 = .ok (.iconst 1, 1) := by decide +kernel
theorem dX3_goDown_16 : decode cX3_goDown 16 = .ok (.iadd, 1) := by decide +kernel
theorem dX3_goDown_17 : decode cX3_goDown 17 = .ok (.putfield 50, 3) := by decide +kernel
theorem dX3_goDown_20 : decode cX3_goDown 20 = .ok (.return_, 1) := by decide +kernel
theorem dX3_hasRow_0 : decode cX3_hasRow 0 = .ok (.iload_n 1, 1) := by decide +kernel
theorem dX3_hasRow_1 : decode cX3_hasRow 1 = .ok (.ifCond .lt 18, 3) := by decide +kernel
theorem dX3_hasRow_4 : decode cX3_hasRow 4 = .ok (.iload_n 1, 1) := by decide +kernel
theorem dX3_hasRow_5 : decode cX3_hasRow 5 = .ok (.aload_n 0, 1) := by decide +kernel
theorem dX3_hasRow_6 : decode cX3_hasRow 6 = .ok (.getfield 21, 3) := by decide +kernel
theorem dX3_hasRow_9 : decode cX3_hasRow 9 = .ok (.getfield 73, 3) := by decide +kernel
theorem dX3_hasRow_12 : decode cX3_hasRow 12 = .ok (.if_icmp .ge 7, 3) := by decide +kernel
theorem dX3_hasRow_15 : decode cX3_hasRow 15 = .ok (.iconst 1, 1) := by decide +kernel
theorem dX3_hasRow_16 : decode cX3_hasRow 16 = .ok (.goto 4, 3) := by decide +kernel
theorem dX3_hasRow_19 : decode cX3_hasRow 19 = .ok (.iconst 0, 1) := by decide +kernel
theorem dX3_hasRow_20 : decode cX3_hasRow 20 = .ok (.ireturn, 1) := by decide +kernel
theorem dX3_asNumber_0 : decode cX3_asNumber 0 = .ok (.iload_n 0, 1) := by decide +kernel
theorem dX3_asNumber_1 : decode cX3_asNumber 1 = .ok (.ifCond .eq 7, 3) := by decide +kernel
theorem dX3_asNumber_4 : decode cX3_asNumber 4 = .ok (.iconst 1, 1) := by decide +kernel
theorem dX3_asNumber_5 : decode cX3_asNumber 5 = .ok (.goto 4, 3) := by decide +kernel
theorem dX3_asNumber_8 : decode cX3_asNumber 8 = .ok (.iconst 0, 1) := by decide +kernel
theorem dX3_asNumber_9 : decode cX3_asNumber 9 = .ok (.ireturn, 1) := by decide +kernel
