theorem dX4_init_0 : decode cX4_init 0 = .ok (.aload_n 0, 1) := by decide +kernel
theorem dX4_init_1 : decode cX4_init 1 = .ok (.invokespecial 1, 3) := by decide +kernel
theorem dX4_init_4 : decode cX4_init 4 = .ok (.aload_n 0, 1) := by decide +kernel
theorem dX4_init_5 : decode cX4_init 5 = .ok (.bipush 12, 2) := by decide +kernel
theorem dX4_init_7 : decode cX4_init 7 = .ok (.newarray .long, 2) := by decide +kernel
theorem dX4_init_9 : decode cX4_init 9 = .ok (.putfield 7, 3) := by decide +kernel
theorem dX4_init_12 : decode cX4_init 12 = .ok (.aload_n 0, 1) := by decide +kernel
theorem dX4_init_13 : decode cX4_init 13 = .ok (.bipush 12, 2) := by decide +kernel
theorem dX4_init_15 : decode cX4_init 15 = .ok (.newarray .long, 2) := by decide +kernel
theorem dX4_init_17 : decode cX4_init 17 = .ok (.putfield 13, 3) := by decide +kernel
theorem dX4_init_20 : decode cX4_init 20 = .ok (.aload_n 0, 1) := by decide +kernel
theorem dX4_init_21 : decode cX4_init 21 = .ok (.bipush 12, 2) := by decide +kernel
theorem dX4_init_23 : decode cX4_init 23 = .ok (.newarray .long, 2) := by decide +kernel
theorem dX4_init_25 : decode cX4_init 25 = .ok (.putfield 16, 3) := by decide +kernel
theorem dX4_init_28 : decode cX4_init 28 = .ok (.aload_n 0, 1) := by decide +kernel
theorem dX4_init_29 : decode cX4_init 29 = .ok (.bipush 6, 2) := by decide +kernel
theorem dX4_init_31 : decode cX4_init 31 = .ok (.newarray .int, 2) := by decide +kernel
theorem dX4_init_33 : decode cX4_init 33 = .ok (.putfield 19, 3) := by decide +kernel
theorem dX4_init_36 : decode cX4_init 36 = .ok (.aload_n 0, 1) := by decide +kernel
theorem dX4_init_37 : decode cX4_init 37 = .ok (.bipush 6, 2) := by decide +kernel
theorem dX4_init_39 : decode cX4_init 39 = .ok (.newarray .int, 2) := by decide +kernel
theorem dX4_init_41 : decode cX4_init 41 = .ok (.putfield 23, 3) := by decide +kernel
theorem dX4_init_44 : decode cX4_init 44 = .ok (.aload_n 0, 1) := by decide +kernel
theorem dX4_init_45 : decode cX4_init 45 = .ok (.bipush 6, 2) := by decide +kernel
theorem dX4_init_47 : decode cX4_init 47 = .ok (.newarray .int, 2) := by decide +kernel
theorem dX4_init_49 : decode cX4_init 49 = .ok (.putfield 26, 3) := by decide +kernel
theorem dX4_init_52 : decode cX4_init 52 = .ok (.aload_n 0, 1) := by decide +kernel
theorem dX4_init_53 : decode cX4_init 53 = .ok (.sipush 5001, 3) := by decide +kernel
theorem dX4_init_56 : decode cX4_init 56 = .ok (.newarray .long, 2) := by decide +kernel
theorem dX4_init_58 : decode cX4_init 58 = .ok (.putfield 29, 3) := by decide +kernel
theorem dX4_init_61 : decode cX4_init 61 = .ok (.aload_n 0, 1) := by decide +kernel
theorem dX4_init_62 : decode cX4_init 62 = .ok (.sipush 1212, 3) := by decide +kernel
theorem dX4_init_65 : decode cX4_init 65 = .ok (.newarray .long, 2) := by decide +kernel
theorem dX4_init_67 : decode cX4_init 67 = .ok (.putfield 32, 3) := by decide +kernel
theorem dX4_init_70 : decode cX4_init 70 = .ok (.aload_n 0, 1) := by decide +kernel
theorem dX4_init_71 : decode cX4_init 71 = .ok (.sipush 606, 3) := by decide +kernel
theorem dX4_init_74 : decode cX4_init 74 = .ok (.newarray .int, 2) := by decide +kernel
theorem dX4_init_76 : decode cX4_init 76 = .ok (.putfield 35, 3) := by decide +kernel
theorem dX4_init_79 : decode cX4_init 79 = .ok (.aload_n 0, 1) := by decide +kernel
theorem dX4_init_80 : decode cX4_init 80 = .ok (.bipush 101, 2) := by decide +kernel
theorem dX4_init_82 : decode cX4_init 82 = .ok (.newarray .int, 2) := by decide +kernel
theorem dX4_init_84 : decode cX4_init 84 = .ok (.putfield 38, 3) := by decide +kernel
theorem dX4_init_87 : decode cX4_init 87 = .ok (.aload_n 0, 1) := by decide +kernel
theorem dX4_init_88 : decode cX4_init 88 = .ok (.bipush 101, 2) := by decide +kernel
theorem dX4_init_90 : decode cX4_init 90 = .ok (.newarray .int, 2) := by decide +kernel
theorem dX4_init_92 : decode cX4_init 92 = .ok (.putfield 41, 3) := by decide +kernel
theorem dX4_init_95 : decode cX4_init 95 = .ok (.aload_n 0, 1) := by decide +kernel
theorem dX4_init_96 : decode cX4_init 96 = .ok (.bipush 101, 2) := by decide +kernel
theorem dX4_init_98 : decode cX4_init 98 = .ok (.newarray .int, 2) := by decide +kernel
theorem dX4_init_100 : decode cX4_init 100 = .ok (.putfield 44, 3) := by decide +kernel
theorem dX4_init_103 : decode cX4_init 103 = .ok (.aload_n 0, 1) := by decide +kernel
theorem dX4_init_104 : decode cX4_init 104 = .ok (.bipush 101, 2) := by decide +kernel
theorem dX4_init_106 : decode cX4_init 106 = .ok (.newarray .int, 2) := by decide +kernel
theorem dX4_init_108 : decode cX4_init 108 = .ok (.putfield 47, 3) := by decide +kernel
theorem dX4_init_111 : decode cX4_init 111 = .ok (.aload_n 0, 1) := by decide +kernel
theorem dX4_init_112 : decode cX4_init 112 = .ok (.bipush 101, 2) := by decide +kernel
theorem dX4_init_114 : decode cX4_init 114 = .ok (.newarray .boolean, 2) := by decide +kernel
theorem dX4_init_116 : decode cX4_init 116 = .ok (.putfield 50, 3) := by decide +kernel
theorem dX4_init_119 : decode cX4_init 119 = .ok (.return_, 1) := by decide +kernel
theorem dX4_cell_0 : decode cX4_cell 0 = .ok (.aload_n 0, 1) := by decide +kernel
theorem dX4_cell_1 : decode cX4_cell 1 = .ok (.iconst 0, 1) := by decide +kernel
theorem dX4_cell_2 : decode cX4_cell 2 = .ok (.putfield 54, 3) := by decide +kernel
theorem dX4_cell_5 : decode cX4_cell 5 = .ok (.aload_n 0, 1) := by decide +kernel
theorem dX4_cell_6 : decode cX4_cell 6 = .ok (.getfield 58, 3) := by decide +kernel
theorem dX4_cell_9 : decode cX4_cell 9 = .ok (.ifCond .ne 10, 3) := by decide +kernel
theorem dX4_cell_12 : decode cX4_cell 12 = .ok (.aload_n 0, 1) := by decide +kernel
theorem dX4_cell_13 : decode cX4_cell 13 = .ok (.getfield 62, 3) := by decide +kernel
theorem dX4_cell_16 : decode cX4_cell 16 = .ok (.ifCond .le 6, 3) := by decide +kernel
theorem dX4_cell_19 : decode cX4_cell 19 = .ok (.bipush (-5), 2) := by decide +kernel
theorem dX4_cell_21 : decode cX4_cell 21 = .ok (.ireturn, 1) := by decide +kernel
theorem dX4_cell_22 : decode cX4_cell 22 = .ok (.aload_n 0, 1) := by decide +kernel
theorem dX4_cell_23 : decode cX4_cell 23 = .ok (.getfield 65, 3) := by decide +kernel
theorem dX4_cell_26 : decode cX4_cell 26 = .ok (.bipush 12, 2) := by decide +kernel
theorem dX4_cell_28 : decode cX4_cell 28 = .ok (.if_icmp .ne 5, 3) := by decide +kernel
theorem dX4_cell_31 : decode cX4_cell 31 = .ok (.iconst (-1), 1) := by decide +kernel
theorem dX4_cell_32 : decode cX4_cell 32 = .ok (.ireturn, 1) := by decide +kernel
theorem dX4_cell_33 : decode cX4_cell 33 = .ok (.aload_n 0, 1) := by decide +kernel
theorem dX4_cell_34 : decode cX4_cell 34 = .ok (.getfield 7, 3) := by decide +kernel
theorem dX4_cell_37 : decode cX4_cell 37 = .ok (.aload_n 0, 1) := by decide +kernel
theorem dX4_cell_38 : decode cX4_cell 38 = .ok (.getfield 65, 3) := by decide +kernel
theorem dX4_cell_41 : decode cX4_cell 41 = .ok (.lload_n 1, 1) := by decide +kernel
theorem dX4_cell_42 : decode cX4_cell 42 = .ok (.lastore, 1) := by decide +kernel
theorem dX4_cell_43 : decode cX4_cell 43 = .ok (.aload_n 0, 1) := by decide +kernel
theorem dX4_cell_44 : decode cX4_cell 44 = .ok (.getfield 13, 3) := by decide +kernel
theorem dX4_cell_47 : decode cX4_cell 47 = .ok (.aload_n 0, 1) := by decide +kernel
theorem dX4_cell_48 : decode cX4_cell 48 = .ok (.getfield 65, 3) := by decide +kernel
theorem dX4_cell_51 : decode cX4_cell 51 = .ok (.lload_n 1, 1) := by decide +kernel
theorem dX4_cell_52 : decode cX4_cell 52 = .ok (.lastore, 1) := by decide +kernel
theorem dX4_cell_53 : decode cX4_cell 53 = .ok (.aload_n 0, 1) := by decide +kernel
theorem dX4_cell_54 : decode cX4_cell 54 = .ok (.dup, 1) := by decide +kernel
theorem dX4_cell_55 : decode cX4_cell 55 = .ok (.getfield 65, 3) := by decide +kernel
theorem dX4_cell_58 : decode cX4_cell 58 = .ok (.iconst 1, 1) := by decide +kernel
theorem dX4_cell_59 : decode cX4_cell 59 = .ok (.iadd, 1) := by decide +kernel
theorem dX4_cell_60 : decode cX4_cell 60 = .ok (.putfield 65, 3) := by decide +kernel
theorem dX4_cell_63 : decode cX4_cell 63 = .ok (.aload_n 0, 1) := by decide +kernel
theorem dX4_cell_64 : decode cX4_cell 64 = .ok (.getfield 65, 3) := by decide +kernel
theorem dX4_cell_67 : decode cX4_cell 67 = .ok (.iconst 1, 1) := by decide +kernel
theorem dX4_cell_68 : decode cX4_cell 68 = .ok (.isub, 1) := by decide +kernel
theorem dX4_cell_69 : decode cX4_cell 69 = .ok (.ireturn, 1) := by decide +kernel
theorem dX4_file_0 : decode cX4_file 0 = .ok (.aload_n 0, 1) := by decide +kernel
theorem dX4_file_1 : decode cX4_file 1 = .ok (.iconst 0, 1) := by decide +kernel
theorem dX4_file_2 : decode cX4_file 2 = .ok (.putfield 54, 3) := by decide +kernel
theorem dX4_file_5 : decode cX4_file 5 = .ok (.iload_n 1, 1) := by decide +kernel
theorem dX4_file_6 : decode cX4_file 6 = .ok (.ifCond .lt 10, 3) := by decide +kernel
theorem dX4_file_9 : decode cX4_file 9 = .ok (.iload_n 1, 1) := by decide +kernel
theorem dX4_file_10 : decode cX4_file 10 = .ok (.sipush 2000, 3) := by decide +kernel
theorem dX4_file_13 : decode cX4_file 13 = .ok (.if_icmp .le 6, 3) := by decide +kernel
theorem dX4_file_16 : decode cX4_file 16 = .ok (.bipush (-4), 2) := by decide +kernel
theorem dX4_file_18 : decode cX4_file 18 = .ok (.ireturn, 1) := by decide +kernel
theorem dX4_file_19 : decode cX4_file 19 = .ok (.aload_n 0, 1) := by decide +kernel
theorem dX4_file_20 : decode cX4_file 20 = .ok (.getfield 58, 3) := by decide +kernel
theorem dX4_file_23 : decode cX4_file 23 = .ok (.ifCond .ne 10, 3) := by decide +kernel
theorem dX4_file_26 : decode cX4_file 26 = .ok (.aload_n 0, 1) := by decide +kernel
theorem dX4_file_27 : decode cX4_file 27 = .ok (.getfield 62, 3) := by decide +kernel
theorem dX4_file_30 : decode cX4_file 30 = .ok (.ifCond .le 6, 3) := by decide +kernel
theorem dX4_file_33 : decode cX4_file 33 = .ok (.bipush (-5), 2) := by decide +kernel
theorem dX4_file_35 : decode cX4_file 35 = .ok (.ireturn, 1) := by decide +kernel
theorem dX4_file_36 : decode cX4_file 36 = .ok (.aload_n 0, 1) := by decide +kernel
theorem dX4_file_37 : decode cX4_file 37 = .ok (.getfield 68, 3) := by decide +kernel
theorem dX4_file_40 : decode cX4_file 40 = .ok (.bipush 6, 2) := by decide +kernel
theorem dX4_file_42 : decode cX4_file 42 = .ok (.if_icmp .ne 5, 3) := by decide +kernel
theorem dX4_file_45 : decode cX4_file 45 = .ok (.iconst (-1), 1) := by decide +kernel
theorem dX4_file_46 : decode cX4_file 46 = .ok (.ireturn, 1) := by decide +kernel
theorem dX4_file_47 : decode cX4_file 47 = .ok (.aload_n 0, 1) := by decide +kernel
theorem dX4_file_48 : decode cX4_file 48 = .ok (.getfield 19, 3) := by decide +kernel
theorem dX4_file_51 : decode cX4_file 51 = .ok (.aload_n 0, 1) := by decide +kernel
theorem dX4_file_52 : decode cX4_file 52 = .ok (.getfield 68, 3) := by decide +kernel
theorem dX4_file_55 : decode cX4_file 55 = .ok (.iload_n 1, 1) := by decide +kernel
theorem dX4_file_56 : decode cX4_file 56 = .ok (.iastore, 1) := by decide +kernel
theorem dX4_file_57 : decode cX4_file 57 = .ok (.aload_n 0, 1) := by decide +kernel
theorem dX4_file_58 : decode cX4_file 58 = .ok (.dup, 1) := by decide +kernel
theorem dX4_file_59 : decode cX4_file 59 = .ok (.getfield 68, 3) := by decide +kernel
theorem dX4_file_62 : decode cX4_file 62 = .ok (.iconst 1, 1) := by decide +kernel
theorem dX4_file_63 : decode cX4_file 63 = .ok (.iadd, 1) := by decide +kernel
theorem dX4_file_64 : decode cX4_file 64 = .ok (.putfield 68, 3) := by decide +kernel
theorem dX4_file_67 : decode cX4_file 67 = .ok (.aload_n 0, 1) := by decide +kernel
theorem dX4_file_68 : decode cX4_file 68 = .ok (.getfield 68, 3) := by decide +kernel
theorem dX4_file_71 : decode cX4_file 71 = .ok (.iconst 1, 1) := by decide +kernel
theorem dX4_file_72 : decode cX4_file 72 = .ok (.isub, 1) := by decide +kernel
theorem dX4_file_73 : decode cX4_file 73 = .ok (.ireturn, 1) := by decide +kernel
theorem dX4_isEnded_0 : decode cX4_isEnded 0 = .ok (.iconst 1, 1) := by decide +kernel
theorem dX4_isEnded_1 : decode cX4_isEnded 1 = .ok (.istore_n 1, 1) := by decide +kernel
theorem dX4_isEnded_2 : decode cX4_isEnded 2 = .ok (.iconst 0, 1) := by decide +kernel
theorem dX4_isEnded_3 : decode cX4_isEnded 3 = .ok (.istore_n 2, 1) := by decide +kernel
theorem dX4_isEnded_4 : decode cX4_isEnded 4 = .ok (.iload_n 2, 1) := by decide +kernel
theorem dX4_isEnded_5 : decode cX4_isEnded 5 = .ok (.aload_n 0, 1) := by decide +kernel
theorem dX4_isEnded_6 : decode cX4_isEnded 6 = .ok (.getfield 68, 3) := by decide +kernel
theorem dX4_isEnded_9 : decode cX4_isEnded 9 = .ok (.if_icmp .ge 34, 3) := by decide +kernel
theorem dX4_isEnded_12 : decode cX4_isEnded 12 = .ok (.iload_n 1, 1) := by decide +kernel
theorem dX4_isEnded_13 : decode cX4_isEnded 13 = .ok (.ifCond .eq 22, 3) := by decide +kernel
theorem dX4_isEnded_16 : decode cX4_isEnded 16 = .ok (.aload_n 0, 1) := by decide +kernel
theorem dX4_isEnded_17 : decode cX4_isEnded 17 = .ok (.getfield 23, 3) := by decide +kernel
theorem dX4_isEnded_20 : decode cX4_isEnded 20 = .ok (.iload_n 2, 1) := by decide +kernel
theorem dX4_isEnded_21 : decode cX4_isEnded 21 = .ok (.iaload, 1) := by decide +kernel
theorem dX4_isEnded_22 : decode cX4_isEnded 22 = .ok (.aload_n 0, 1) := by decide +kernel
theorem dX4_isEnded_23 : decode cX4_isEnded 23 = .ok (.getfield 19, 3) := by decide +kernel
theorem dX4_isEnded_26 : decode cX4_isEnded 26 = .ok (.iload_n 2, 1) := by decide +kernel
theorem dX4_isEnded_27 : decode cX4_isEnded 27 = .ok (.iaload, 1) := by decide +kernel
theorem dX4_isEnded_28 : decode cX4_isEnded 28 = .ok (.if_icmp .lt 7, 3) := by decide +kernel
theorem dX4_isEnded_31 : decode cX4_isEnded 31 = .ok (.iconst 1, 1) := by decide +kernel
theorem dX4_isEnded_32 : decode cX4_isEnded 32 = .ok (.goto 4, 3) := by decide +kernel
theorem dX4_isEnded_35 : decode cX4_isEnded 35 = .ok (.iconst 0, 1) := by decide +kernel
theorem dX4_isEnded_36 : decode cX4_isEnded 36 = .ok (.istore_n 1, 1) := by decide +kernel
theorem dX4_isEnded_37 : decode cX4_isEnded 37 = .ok (.iinc 2 1, 3) := by decide +kernel
theorem dX4_isEnded_40 : decode cX4_isEnded 40 = .ok (.goto (-36), 3) := by decide +kernel
theorem dX4_isEnded_43 : decode cX4_isEnded 43 = .ok (.iload_n 1, 1) := by decide +kernel
theorem dX4_isEnded_44 : decode cX4_isEnded 44 = .ok (.ireturn, 1) := by decide +kernel
set_option maxRecDepth 20000 in
theorem ggX4_step_X4_isEnded : GoodIn wsX4_step wsX4_isEnded := goodIn_r _ [15, 4, 5, 6, 16, 17, 18, 19, 20, 21, 22, 23, 24, 25, 26, 27, 28, 29, 30, 31, 32, 33, 34, 35, 36, 37, 38] rfl (by decide +kernel)
set_option maxRecDepth 20000 in
theorem gX4_step_X4_isEnded : GoodIn wsX4_step (wsV RX4 71 RX4 yX4_isEnded wsX4_isEnded) := goodIn_app (goodIn_of _ (by decide +kernel)) ggX4_step_X4_isEnded
theorem dX4_step_0 : decode cX4_step 0 = .ok (.aload_n 0, 1) := by decide +kernel
theorem dX4_step_1 : decode cX4_step 1 = .ok (.iconst 0, 1) := by decide +kernel
theorem dX4_step_2 : decode cX4_step 2 = .ok (.putfield 54, 3) := by decide +kernel
theorem dX4_step_5 : decode cX4_step 5 = .ok (.iload_n 1, 1) := by decide +kernel
theorem dX4_step_6 : decode cX4_step 6 = .ok (.ifCond .lt 10, 3) := by decide +kernel
theorem dX4_step_9 : decode cX4_step 9 = .ok (.iload_n 1, 1) := by decide +kernel
theorem dX4_step_10 : decode cX4_step 10 = .ok (.sipush 1000, 3) := by decide +kernel
theorem dX4_step_13 : decode cX4_step 13 = .ok (.if_icmp .le 6, 3) := by decide +kernel
theorem dX4_step_16 : decode cX4_step 16 = .ok (.bipush (-4), 2) := by decide +kernel
theorem dX4_step_18 : decode cX4_step 18 = .ok (.ireturn, 1) := by decide +kernel
theorem dX4_step_19 : decode cX4_step 19 = .ok (.aload_n 0, 1) := by decide +kernel
theorem dX4_step_20 : decode cX4_step 20 = .ok (.getfield 58, 3) := by decide +kernel
theorem dX4_step_23 : decode cX4_step 23 = .ok (.ifCond .eq 6, 3) := by decide +kernel
theorem dX4_step_26 : decode cX4_step 26 = .ok (.bipush (-5), 2) := by decide +kernel
theorem dX4_step_28 : decode cX4_step 28 = .ok (.ireturn, 1) := by decide +kernel
theorem dX4_step_29 : decode cX4_step 29 = .ok (.iconst 0, 1) := by decide +kernel
theorem dX4_step_30 : decode cX4_step 30 = .ok (.istore_n 2, 1) := by decide +kernel
theorem dX4_step_31 : decode cX4_step 31 = .ok (.iload_n 2, 1) := by decide +kernel
theorem dX4_step_32 : decode cX4_step 32 = .ok (.iload_n 1, 1) := by decide +kernel
theorem dX4_step_33 : decode cX4_step 33 = .ok (.if_icmp .ge 187, 3) := by decide +kernel
theorem dX4_step_36 : decode cX4_step 36 = .ok (.aload_n 0, 1) := by decide +kernel
theorem dX4_step_37 : decode cX4_step 37 = .ok (.getfield 62, 3) := by decide +kernel
theorem dX4_step_40 : decode cX4_step 40 = .ok (.sipush 5000, 3) := by decide +kernel
theorem dX4_step_43 : decode cX4_step 43 = .ok (.if_icmp .ge 177, 3) := by decide +kernel
theorem dX4_step_46 : decode cX4_step 46 = .ok (.aload_n 0, 1) := by decide +kernel
theorem dX4_step_47 : decode cX4_step 47 = .ok (.invokevirtual 71, 3) := by decide +kernel
theorem dX4_step_50 : decode cX4_step 50 = .ok (.ifCond .ne 170, 3) := by decide +kernel
theorem dX4_step_53 : decode cX4_step 53 = .ok (.aload_n 0, 1) := by decide +kernel
theorem dX4_step_54 : decode cX4_step 54 = .ok (.dup, 1) := by decide +kernel
theorem dX4_step_55 : decode cX4_step 55 = .ok (.getfield 62, 3) := by decide +kernel
theorem dX4_step_58 : decode cX4_step 58 = .ok (.iconst 1, 1) := by decide +kernel
theorem dX4_step_59 : decode cX4_step 59 = .ok (.iadd, 1) := by decide +kernel
theorem dX4_step_60 : decode cX4_step 60 = .ok (.putfield 62, 3) := by decide +kernel
theorem dX4_step_63 : decode cX4_step 63 = .ok (.iinc 2 1, 3) := by decide +kernel
theorem dX4_step_66 : decode cX4_step 66 = .ok (.aload_n 0, 1) := by decide +kernel
theorem dX4_step_67 : decode cX4_step 67 = .ok (.getfield 62, 3) := by decide +kernel
theorem dX4_step_70 : decode cX4_step 70 = .ok (.iconst 1, 1) := by decide +kernel
theorem dX4_step_71 : decode cX4_step 71 = .ok (.isub, 1) := by decide +kernel
theorem dX4_step_72 : decode cX4_step 72 = .ok (.aload_n 0, 1) := by decide +kernel
theorem dX4_step_73 : decode cX4_step 73 = .ok (.getfield 68, 3) := by decide +kernel
theorem dX4_step_76 : decode cX4_step 76 = .ok (.irem, 1) := by decide +kernel
theorem dX4_step_77 : decode cX4_step 77 = .ok (.istore_n 3, 1) := by decide +kernel
theorem dX4_step_78 : decode cX4_step 78 = .ok (.aload_n 0, 1) := by decide +kernel
theorem dX4_step_79 : decode cX4_step 79 = .ok (.getfield 23, 3) := by decide +kernel
theorem dX4_step_82 : decode cX4_step 82 = .ok (.iload_n 3, 1) := by decide +kernel
theorem dX4_step_83 : decode cX4_step 83 = .ok (.iaload, 1) := by decide +kernel
theorem dX4_step_84 : decode cX4_step 84 = .ok (.aload_n 0, 1) := by decide +kernel
theorem dX4_step_85 : decode cX4_step 85 = .ok (.getfield 19, 3) := by decide +kernel
theorem dX4_step_88 : decode cX4_step 88 = .ok (.iload_n 3, 1) := by decide +kernel
theorem dX4_step_89 : decode cX4_step 89 = .ok (.iaload, 1) := by decide +kernel
theorem dX4_step_90 : decode cX4_step 90 = .ok (.if_icmp .ge 7, 3) := by decide +kernel
theorem dX4_step_93 : decode cX4_step 93 = .ok (.iconst 1, 1) := by decide +kernel
theorem dX4_step_94 : decode cX4_step 94 = .ok (.goto 4, 3) := by decide +kernel
theorem dX4_step_97 : decode cX4_step 97 = .ok (.iconst 0, 1) := by decide +kernel
theorem dX4_step_98 : decode cX4_step 98 = .ok (.istore 4, 2) := by decide +kernel
theorem dX4_step_100 : decode cX4_step 100 = .ok (.ldc2_w 75, 3) := by decide +kernel
theorem dX4_step_103 : decode cX4_step 103 = .ok (.iload_n 3, 1) := by decide +kernel
theorem dX4_step_104 : decode cX4_step 104 = .ok (.iconst 1, 1) := by decide +kernel
theorem dX4_step_105 : decode cX4_step 105 = .ok (.iadd, 1) := by decide +kernel
theorem dX4_step_106 : decode cX4_step 106 = .ok (.i2l, 1) := by decide +kernel
theorem dX4_step_107 : decode cX4_step 107 = .ok (.lmul, 1) := by decide +kernel
theorem dX4_step_108 : decode cX4_step 108 = .ok (.aload_n 0, 1) := by decide +kernel
theorem dX4_step_109 : decode cX4_step 109 = .ok (.getfield 23, 3) := by decide +kernel
theorem dX4_step_112 : decode cX4_step 112 = .ok (.iload_n 3, 1) := by decide +kernel
theorem dX4_step_113 : decode cX4_step 113 = .ok (.iaload, 1) := by decide +kernel
theorem dX4_step_114 : decode cX4_step 114 = .ok (.i2l, 1) := by decide +kernel
theorem dX4_step_115 : decode cX4_step 115 = .ok (.ladd, 1) := by decide +kernel
theorem dX4_step_116 : decode cX4_step 116 = .ok (.lstore 5, 2) := by decide +kernel
theorem dX4_step_118 : decode cX4_step 118 = .ok (.aload_n 0, 1) := by decide +kernel
theorem dX4_step_119 : decode cX4_step 119 = .ok (.getfield 23, 3) := by decide +kernel
theorem dX4_step_122 : decode cX4_step 122 = .ok (.iload_n 3, 1) := by decide +kernel
theorem dX4_step_123 : decode cX4_step 123 = .ok (.dup2, 1) := by decide +kernel
theorem dX4_step_124 : decode cX4_step 124 = .ok (.iaload, 1) := by decide +kernel
theorem dX4_step_125 : decode cX4_step 125 = .ok (.iload 4, 2) := by decide +kernel
theorem dX4_step_127 : decode cX4_step 127 = .ok (.ifCond .eq 7, 3) := by decide +kernel
theorem dX4_step_130 : decode cX4_step 130 = .ok (.iconst 1, 1) := by decide +kernel
theorem dX4_step_131 : decode cX4_step 131 = .ok (.goto 4, 3) := by decide +kernel
theorem dX4_step_134 : decode cX4_step 134 = .ok (.iconst 0, 1) := by decide +kernel
theorem dX4_step_135 : decode cX4_step 135 = .ok (.iadd, 1) := by decide +kernel
theorem dX4_step_136 : decode cX4_step 136 = .ok (.iastore, 1) := by decide +kernel
theorem dX4_step_137 : decode cX4_step 137 = .ok (.aload_n 0, 1) := by decide +kernel
theorem dX4_step_138 : decode cX4_step 138 = .ok (.getfield 29, 3) := by decide +kernel
theorem dX4_step_141 : decode cX4_step 141 = .ok (.aload_n 0, 1) := by decide +kernel
theorem dX4_step_142 : decode cX4_step 142 = .ok (.getfield 62, 3) := by decide +kernel
theorem dX4_step_145 : decode cX4_step 145 = .ok (.iconst 1, 1) := by decide +kernel
theorem dX4_step_146 : decode cX4_step 146 = .ok (.isub, 1) := by decide +kernel
theorem dX4_step_147 : decode cX4_step 147 = .ok (.lconst 0, 1) := by decide +kernel
theorem dX4_step_148 : decode cX4_step 148 = .ok (.lastore, 1) := by decide +kernel
theorem dX4_step_149 : decode cX4_step 149 = .ok (.aload_n 0, 1) := by decide +kernel
theorem dX4_step_150 : decode cX4_step 150 = .ok (.getfield 65, 3) := by decide +kernel
theorem dX4_step_153 : decode cX4_step 153 = .ok (.ifCond .ne 6, 3) := by decide +kernel
theorem dX4_step_156 : decode cX4_step 156 = .ok (.goto (-125), 3) := by decide +kernel
theorem dX4_step_159 : decode cX4_step 159 = .ok (.aload_n 0, 1) := by decide +kernel
theorem dX4_step_160 : decode cX4_step 160 = .ok (.getfield 62, 3) := by decide +kernel
theorem dX4_step_163 : decode cX4_step 163 = .ok (.iconst 1, 1) := by decide +kernel
theorem dX4_step_164 : decode cX4_step 164 = .ok (.isub, 1) := by decide +kernel
theorem dX4_step_165 : decode cX4_step 165 = .ok (.aload_n 0, 1) := by decide +kernel
theorem dX4_step_166 : decode cX4_step 166 = .ok (.getfield 65, 3) := by decide +kernel
theorem dX4_step_169 : decode cX4_step 169 = .ok (.irem, 1) := by decide +kernel
theorem dX4_step_170 : decode cX4_step 170 = .ok (.istore 7, 2) := by decide +kernel
theorem dX4_step_172 : decode cX4_step 172 = .ok (.aload_n 0, 1) := by decide +kernel
theorem dX4_step_173 : decode cX4_step 173 = .ok (.getfield 7, 3) := by decide +kernel
theorem dX4_step_176 : decode cX4_step 176 = .ok (.iload 7, 2) := by decide +kernel
theorem dX4_step_178 : decode cX4_step 178 = .ok (.dup2, 1) := by decide +kernel
theorem dX4_step_179 : decode cX4_step 179 = .ok (.laload, 1) := by decide +kernel
theorem dX4_step_180 : decode cX4_step 180 = .ok (.iload 4, 2) := by decide +kernel
theorem dX4_step_182 : decode cX4_step 182 = .ok (.ifCond .eq 14, 3) := by decide +kernel
theorem dX4_step_185 : decode cX4_step 185 = .ok (.aload_n 0, 1) := by decide +kernel
theorem dX4_step_186 : decode cX4_step 186 = .ok (.getfield 62, 3) := by decide +kernel
theorem dX4_step_189 : decode cX4_step 189 = .ok (.i2l, 1) := by decide +kernel
theorem dX4_step_190 : decode cX4_step 190 = .ok (.lload 5, 2) := by decide +kernel
theorem dX4_step_192 : decode cX4_step 192 = .ok (.lmul, 1) := by decide +kernel
theorem dX4_step_193 : decode cX4_step 193 = .ok (.goto 4, 3) := by decide +kernel
theorem dX4_step_196 : decode cX4_step 196 = .ok (.lconst 0, 1) := by decide +kernel
theorem dX4_step_197 : decode cX4_step 197 = .ok (.ladd, 1) := by decide +kernel
theorem dX4_step_198 : decode cX4_step 198 = .ok (.lastore, 1) := by decide +kernel
theorem dX4_step_199 : decode cX4_step 199 = .ok (.aload_n 0, 1) := by decide +kernel
theorem dX4_step_200 : decode cX4_step 200 = .ok (.getfield 29, 3) := by decide +kernel
theorem dX4_step_203 : decode cX4_step 203 = .ok (.aload_n 0, 1) := by decide +kernel
theorem dX4_step_204 : decode cX4_step 204 = .ok (.getfield 62, 3) := by decide +kernel
theorem dX4_step_207 : decode cX4_step 207 = .ok (.iconst 1, 1) := by decide +kernel
theorem dX4_step_208 : decode cX4_step 208 = .ok (.isub, 1) := by decide +kernel
theorem dX4_step_209 : decode cX4_step 209 = .ok (.aload_n 0, 1) := by decide +kernel
theorem dX4_step_210 : decode cX4_step 210 = .ok (.getfield 7, 3) := by decide +kernel
theorem dX4_step_213 : decode cX4_step 213 = .ok (.iload 7, 2) := by decide +kernel
theorem dX4_step_215 : decode cX4_step 215 = .ok (.laload, 1) := by decide +kernel
theorem dX4_step_216 : decode cX4_step 216 = .ok (.lastore, 1) := by decide +kernel
theorem dX4_step_217 : decode cX4_step 217 = .ok (.goto (-186), 3) := by decide +kernel
theorem dX4_step_220 : decode cX4_step 220 = .ok (.iload_n 2, 1) := by decide +kernel
theorem dX4_step_221 : decode cX4_step 221 = .ok (.ireturn, 1) := by decide +kernel
theorem dX4_check_0 : decode cX4_check 0 = .ok (.aload_n 0, 1) := by decide +kernel
theorem dX4_check_1 : decode cX4_check 1 = .ok (.iconst 0, 1) := by decide +kernel
theorem dX4_check_2 : decode cX4_check 2 = .ok (.putfield 54, 3) := by decide +kernel
theorem dX4_check_5 : decode cX4_check 5 = .ok (.aload_n 0, 1) := by decide +kernel
theorem dX4_check_6 : decode cX4_check 6 = .ok (.getfield 58, 3) := by decide +kernel
theorem dX4_check_9 : decode cX4_check 9 = .ok (.ifCond .eq 6, 3) := by decide +kernel
theorem dX4_check_12 : decode cX4_check 12 = .ok (.bipush (-5), 2) := by decide +kernel
theorem dX4_check_14 : decode cX4_check 14 = .ok (.ireturn, 1) := by decide +kernel
theorem dX4_check_15 : decode cX4_check 15 = .ok (.aload_n 0, 1) := by decide +kernel
theorem dX4_check_16 : decode cX4_check 16 = .ok (.getfield 77, 3) := by decide +kernel
theorem dX4_check_19 : decode cX4_check 19 = .ok (.bipush 100, 2) := by decide +kernel
theorem dX4_check_21 : decode cX4_check 21 = .ok (.if_icmp .ne 5, 3) := by decide +kernel
theorem dX4_check_24 : decode cX4_check 24 = .ok (.iconst (-1), 1) := by decide +kernel
theorem dX4_check_25 : decode cX4_check 25 = .ok (.ireturn, 1) := by decide +kernel
theorem dX4_check_26 : decode cX4_check 26 = .ok (.aload_n 0, 1) := by decide +kernel
theorem dX4_check_27 : decode cX4_check 27 = .ok (.getfield 65, 3) := by decide +kernel
theorem dX4_check_30 : decode cX4_check 30 = .ok (.aload_n 0, 1) := by decide +kernel
theorem dX4_check_31 : decode cX4_check 31 = .ok (.getfield 68, 3) := by decide +kernel
theorem dX4_check_34 : decode cX4_check 34 = .ok (.iadd, 1) := by decide +kernel
theorem dX4_check_35 : decode cX4_check 35 = .ok (.iconst 4, 1) := by decide +kernel
theorem dX4_check_36 : decode cX4_check 36 = .ok (.iadd, 1) := by decide +kernel
theorem dX4_check_37 : decode cX4_check 37 = .ok (.istore_n 1, 1) := by decide +kernel
theorem dX4_check_38 : decode cX4_check 38 = .ok (.aload_n 0, 1) := by decide +kernel
theorem dX4_check_39 : decode cX4_check 39 = .ok (.getfield 80, 3) := by decide +kernel
theorem dX4_check_42 : decode cX4_check 42 = .ok (.ifCond .le 15, 3) := by decide +kernel
theorem dX4_check_45 : decode cX4_check 45 = .ok (.aload_n 0, 1) := by decide +kernel
theorem dX4_check_46 : decode cX4_check 46 = .ok (.getfield 80, 3) := by decide +kernel
theorem dX4_check_49 : decode cX4_check 49 = .ok (.iload_n 1, 1) := by decide +kernel
theorem dX4_check_50 : decode cX4_check 50 = .ok (.if_icmp .gt 7, 3) := by decide +kernel
theorem dX4_check_53 : decode cX4_check 53 = .ok (.iconst 1, 1) := by decide +kernel
theorem dX4_check_54 : decode cX4_check 54 = .ok (.goto 4, 3) := by decide +kernel
theorem dX4_check_57 : decode cX4_check 57 = .ok (.iconst 0, 1) := by decide +kernel
theorem dX4_check_58 : decode cX4_check 58 = .ok (.istore_n 2, 1) := by decide +kernel
theorem dX4_check_59 : decode cX4_check 59 = .ok (.iload_n 2, 1) := by decide +kernel
theorem dX4_check_60 : decode cX4_check 60 = .ok (.ifCond .eq 18, 3) := by decide +kernel
theorem dX4_check_63 : decode cX4_check 63 = .ok (.aload_n 0, 1) := by decide +kernel
theorem dX4_check_64 : decode cX4_check 64 = .ok (.iconst 1, 1) := by decide +kernel
theorem dX4_check_65 : decode cX4_check 65 = .ok (.putfield 58, 3) := by decide +kernel
theorem dX4_check_68 : decode cX4_check 68 = .ok (.aload_n 0, 1) := by decide +kernel
theorem dX4_check_69 : decode cX4_check 69 = .ok (.dup, 1) := by decide +kernel
theorem dX4_check_70 : decode cX4_check 70 = .ok (.getfield 83, 3) := by decide +kernel
theorem dX4_check_73 : decode cX4_check 73 = .ok (.iconst 1, 1) := by decide +kernel
theorem dX4_check_74 : decode cX4_check 74 = .ok (.iadd, 1) := by decide +kernel
theorem dX4_check_75 : decode cX4_check 75 = .ok (.putfield 83, 3) := by decide +kernel
theorem dX4_check_78 : decode cX4_check 78 = .ok (.iload_n 2, 1) := by decide +kernel
theorem dX4_check_79 : decode cX4_check 79 = .ok (.ifCond .eq 18, 3) := by decide +kernel
theorem dX4_check_82 : decode cX4_check 82 = .ok (.aload_n 0, 1) := by decide +kernel
theorem dX4_check_83 : decode cX4_check 83 = .ok (.getfield 80, 3) := by decide +kernel
theorem dX4_check_86 : decode cX4_check 86 = .ok (.iconst 1, 1) := by decide +kernel
theorem dX4_check_87 : decode cX4_check 87 = .ok (.if_icmp .ne 10, 3) := by decide +kernel
theorem dX4_check_90 : decode cX4_check 90 = .ok (.aload_n 0, 1) := by decide +kernel
theorem dX4_check_91 : decode cX4_check 91 = .ok (.iconst 0, 1) := by decide +kernel
theorem dX4_check_92 : decode cX4_check 92 = .ok (.putfield 80, 3) := by decide +kernel
theorem dX4_check_95 : decode cX4_check 95 = .ok (.iconst 0, 1) := by decide +kernel
theorem dX4_check_96 : decode cX4_check 96 = .ok (.ireturn, 1) := by decide +kernel
theorem dX4_check_97 : decode cX4_check 97 = .ok (.aload_n 0, 1) := by decide +kernel
theorem dX4_check_98 : decode cX4_check 98 = .ok (.dup, 1) := by decide +kernel
theorem dX4_check_99 : decode cX4_check 99 = .ok (.getfield 77, 3) := by decide +kernel
theorem dX4_check_102 : decode cX4_check 102 = .ok (.iconst 1, 1) := by decide +kernel
theorem dX4_check_103 : decode cX4_check 103 = .ok (.iadd, 1) := by decide +kernel
theorem dX4_check_104 : decode cX4_check 104 = .ok (.putfield 77, 3) := by decide +kernel
theorem dX4_check_107 : decode cX4_check 107 = .ok (.iconst 0, 1) := by decide +kernel
theorem dX4_check_108 : decode cX4_check 108 = .ok (.istore_n 3, 1) := by decide +kernel
theorem dX4_check_109 : decode cX4_check 109 = .ok (.iload_n 3, 1) := by decide +kernel
theorem dX4_check_110 : decode cX4_check 110 = .ok (.bipush 12, 2) := by decide +kernel
theorem dX4_check_112 : decode cX4_check 112 = .ok (.if_icmp .ge 29, 3) := by decide +kernel
theorem dX4_check_115 : decode cX4_check 115 = .ok (.aload_n 0, 1) := by decide +kernel
theorem dX4_check_116 : decode cX4_check 116 = .ok (.getfield 32, 3) := by decide +kernel
theorem dX4_check_119 : decode cX4_check 119 = .ok (.bipush 12, 2) := by decide +kernel
theorem dX4_check_121 : decode cX4_check 121 = .ok (.aload_n 0, 1) := by decide +kernel
theorem dX4_check_122 : decode cX4_check 122 = .ok (.getfield 77, 3) := by decide +kernel
theorem dX4_check_125 : decode cX4_check 125 = .ok (.imul, 1) := by decide +kernel
theorem dX4_check_126 : decode cX4_check 126 = .ok (.iload_n 3, 1) := by decide +kernel
theorem dX4_check_127 : decode cX4_check 127 = .ok (.iadd, 1) := by decide +kernel
theorem dX4_check_128 : decode cX4_check 128 = .ok (.aload_n 0, 1) := by decide +kernel
theorem dX4_check_129 : decode cX4_check 129 = .ok (.getfield 7, 3) := by decide +kernel
theorem dX4_check_132 : decode cX4_check 132 = .ok (.iload_n 3, 1) := by decide +kernel
theorem dX4_check_133 : decode cX4_check 133 = .ok (.laload, 1) := by decide +kernel
theorem dX4_check_134 : decode cX4_check 134 = .ok (.lastore, 1) := by decide +kernel
theorem dX4_check_135 : decode cX4_check 135 = .ok (.iinc 3 1, 3) := by decide +kernel
theorem dX4_check_138 : decode cX4_check 138 = .ok (.goto (-29), 3) := by decide +kernel
theorem dX4_check_141 : decode cX4_check 141 = .ok (.iconst 0, 1) := by decide +kernel
theorem dX4_check_142 : decode cX4_check 142 = .ok (.istore_n 3, 1) := by decide +kernel
theorem dX4_check_143 : decode cX4_check 143 = .ok (.iload_n 3, 1) := by decide +kernel
theorem dX4_check_144 : decode cX4_check 144 = .ok (.bipush 6, 2) := by decide +kernel
theorem dX4_check_146 : decode cX4_check 146 = .ok (.if_icmp .ge 29, 3) := by decide +kernel
theorem dX4_check_149 : decode cX4_check 149 = .ok (.aload_n 0, 1) := by decide +kernel
theorem dX4_check_150 : decode cX4_check 150 = .ok (.getfield 35, 3) := by decide +kernel
theorem dX4_check_153 : decode cX4_check 153 = .ok (.bipush 6, 2) := by decide +kernel
theorem dX4_check_155 : decode cX4_check 155 = .ok (.aload_n 0, 1) := by decide +kernel
theorem dX4_check_156 : decode cX4_check 156 = .ok (.getfield 77, 3) := by decide +kernel
theorem dX4_check_159 : decode cX4_check 159 = .ok (.imul, 1) := by decide +kernel
theorem dX4_check_160 : decode cX4_check 160 = .ok (.iload_n 3, 1) := by decide +kernel
theorem dX4_check_161 : decode cX4_check 161 = .ok (.iadd, 1) := by decide +kernel
theorem dX4_check_162 : decode cX4_check 162 = .ok (.aload_n 0, 1) := by decide +kernel
theorem dX4_check_163 : decode cX4_check 163 = .ok (.getfield 23, 3) := by decide +kernel
theorem dX4_check_166 : decode cX4_check 166 = .ok (.iload_n 3, 1) := by decide +kernel
theorem dX4_check_167 : decode cX4_check 167 = .ok (.iaload, 1) := by decide +kernel
theorem dX4_check_168 : decode cX4_check 168 = .ok (.iastore, 1) := by decide +kernel
theorem dX4_check_169 : decode cX4_check 169 = .ok (.iinc 3 1, 3) := by decide +kernel
theorem dX4_check_172 : decode cX4_check 172 = .ok (.goto (-29), 3) := by decide +kernel
theorem dX4_check_175 : decode cX4_check 175 = .ok (.aload_n 0, 1) := by decide +kernel
theorem dX4_check_176 : decode cX4_check 176 = .ok (.getfield 38, 3) := by decide +kernel
theorem dX4_check_179 : decode cX4_check 179 = .ok (.aload_n 0, 1) := by decide +kernel
theorem dX4_check_180 : decode cX4_check 180 = .ok (.getfield 77, 3) := by decide +kernel
theorem dX4_check_183 : decode cX4_check 183 = .ok (.aload_n 0, 1) := by decide +kernel
theorem dX4_check_184 : decode cX4_check 184 = .ok (.getfield 65, 3) := by decide +kernel
theorem dX4_check_187 : decode cX4_check 187 = .ok (.iastore, 1) := by decide +kernel
theorem dX4_check_188 : decode cX4_check 188 = .ok (.aload_n 0, 1) := by decide +kernel
theorem dX4_check_189 : decode cX4_check 189 = .ok (.getfield 41, 3) := by decide +kernel
theorem dX4_check_192 : decode cX4_check 192 = .ok (.aload_n 0, 1) := by decide +kernel
theorem dX4_check_193 : decode cX4_check 193 = .ok (.getfield 77, 3) := by decide +kernel
theorem dX4_check_196 : decode cX4_check 196 = .ok (.aload_n 0, 1) := by decide +kernel
theorem dX4_check_197 : decode cX4_check 197 = .ok (.getfield 68, 3) := by decide +kernel
theorem dX4_check_200 : decode cX4_check 200 = .ok (.iastore, 1) := by decide +kernel
theorem dX4_check_201 : decode cX4_check 201 = .ok (.aload_n 0, 1) := by decide +kernel
theorem dX4_check_202 : decode cX4_check 202 = .ok (.getfield 44, 3) := by decide +kernel
theorem dX4_check_205 : decode cX4_check 205 = .ok (.aload_n 0, 1) := by decide +kernel
theorem dX4_check_206 : decode cX4_check 206 = .ok (.getfield 77, 3) := by decide +kernel
theorem dX4_check_209 : decode cX4_check 209 = .ok (.aload_n 0, 1) := by decide +kernel
theorem dX4_check_210 : decode cX4_check 210 = .ok (.getfield 62, 3) := by decide +kernel
theorem dX4_check_213 : decode cX4_check 213 = .ok (.iastore, 1) := by decide +kernel
theorem dX4_check_214 : decode cX4_check 214 = .ok (.aload_n 0, 1) := by decide +kernel
theorem dX4_check_215 : decode cX4_check 215 = .ok (.getfield 47, 3) := by decide +kernel
theorem dX4_check_218 : decode cX4_check 218 = .ok (.aload_n 0, 1) := by decide +kernel
theorem dX4_check_219 : decode cX4_check 219 = .ok (.getfield 77, 3) := by decide +kernel
theorem dX4_check_222 : decode cX4_check 222 = .ok (.aload_n 0, 1) := by decide +kernel
theorem dX4_check_223 : decode cX4_check 223 = .ok (.getfield 86, 3) := by decide +kernel
theorem dX4_check_226 : decode cX4_check 226 = .ok (.iastore, 1) := by decide +kernel
theorem dX4_check_227 : decode cX4_check 227 = .ok (.aload_n 0, 1) := by decide +kernel
theorem dX4_check_228 : decode cX4_check 228 = .ok (.getfield 50, 3) := by decide +kernel
theorem dX4_check_231 : decode cX4_check 231 = .ok (.aload_n 0, 1) := by decide +kernel
theorem dX4_check_232 : decode cX4_check 232 = .ok (.getfield 77, 3) := by decide +kernel
theorem dX4_check_235 : decode cX4_check 235 = .ok (.iload_n 2, 1) := by decide +kernel
theorem dX4_check_236 : decode cX4_check 236 = .ok (.ifCond .ne 7, 3) := by decide +kernel
theorem dX4_check_239 : decode cX4_check 239 = .ok (.iconst 1, 1) := by decide +kernel
theorem dX4_check_240 : decode cX4_check 240 = .ok (.goto 4, 3) := by decide +kernel
theorem dX4_check_243 : decode cX4_check 243 = .ok (.iconst 0, 1) := by decide +kernel
theorem dX4_check_244 : decode cX4_check 244 = .ok (.bastore, 1) := by decide +kernel
theorem dX4_check_245 : decode cX4_check 245 = .ok (.aload_n 0, 1) := by decide +kernel
theorem dX4_check_246 : decode cX4_check 246 = .ok (.iload_n 2, 1) := by decide +kernel
theorem dX4_check_247 : decode cX4_check 247 = .ok (.ifCond .eq 7, 3) := by decide +kernel
theorem dX4_check_250 : decode cX4_check 250 = .ok (.iconst 0, 1) := by decide +kernel
theorem dX4_check_251 : decode cX4_check 251 = .ok (.goto 7, 3) := by decide +kernel
theorem dX4_check_254 : decode cX4_check 254 = .ok (.aload_n 0, 1) := by decide +kernel
theorem dX4_check_255 : decode cX4_check 255 = .ok (.getfield 80, 3) := by decide +kernel
theorem dX4_check_258 : decode cX4_check 258 = .ok (.putfield 80, 3) := by decide +kernel
theorem dX4_check_261 : decode cX4_check 261 = .ok (.iload_n 2, 1) := by decide +kernel
theorem dX4_check_262 : decode cX4_check 262 = .ok (.ifCond .eq 7, 3) := by decide +kernel
theorem dX4_check_265 : decode cX4_check 265 = .ok (.iconst 0, 1) := by decide +kernel
theorem dX4_check_266 : decode cX4_check 266 = .ok (.goto 7, 3) := by decide +kernel
theorem dX4_check_269 : decode cX4_check 269 = .ok (.aload_n 0, 1) := by decide +kernel
theorem dX4_check_270 : decode cX4_check 270 = .ok (.getfield 77, 3) := by decide +kernel
theorem dX4_check_273 : decode cX4_check 273 = .ok (.ireturn, 1) := by decide +kernel
theorem dX4_cut_0 : decode cX4_cut 0 = .ok (.aload_n 0, 1) := by decide +kernel
theorem dX4_cut_1 : decode cX4_cut 1 = .ok (.iconst 0, 1) := by decide +kernel
theorem dX4_cut_2 : decode cX4_cut 2 = .ok (.putfield 54, 3) := by decide +kernel
theorem dX4_cut_5 : decode cX4_cut 5 = .ok (.iload_n 1, 1) := by decide +kernel
theorem dX4_cut_6 : decode cX4_cut 6 = .ok (.ifCond .lt 9, 3) := by decide +kernel
theorem dX4_cut_9 : decode cX4_cut 9 = .ok (.iload_n 1, 1) := by decide +kernel
theorem dX4_cut_10 : decode cX4_cut 10 = .ok (.bipush 30, 2) := by decide +kernel
theorem dX4_cut_12 : decode cX4_cut 12 = .ok (.if_icmp .le 6, 3) := by decide +kernel
theorem dX4_cut_15 : decode cX4_cut 15 = .ok (.bipush (-4), 2) := by decide +kernel
theorem dX4_cut_17 : decode cX4_cut 17 = .ok (.ireturn, 1) := by decide +kernel
theorem dX4_cut_18 : decode cX4_cut 18 = .ok (.aload_n 0, 1) := by decide +kernel
theorem dX4_cut_19 : decode cX4_cut 19 = .ok (.dup, 1) := by decide +kernel
theorem dX4_cut_20 : decode cX4_cut 20 = .ok (.getfield 83, 3) := by decide +kernel
theorem dX4_cut_23 : decode cX4_cut 23 = .ok (.iload_n 1, 1) := by decide +kernel
theorem dX4_cut_24 : decode cX4_cut 24 = .ok (.ifCond .ne 14, 3) := by decide +kernel
theorem dX4_cut_27 : decode cX4_cut 27 = .ok (.aload_n 0, 1) := by decide +kernel
theorem dX4_cut_28 : decode cX4_cut 28 = .ok (.getfield 58, 3) := by decide +kernel
theorem dX4_cut_31 : decode cX4_cut 31 = .ok (.ifCond .ne 7, 3) := by decide +kernel
theorem dX4_cut_34 : decode cX4_cut 34 = .ok (.iconst 1, 1) := by decide +kernel
theorem dX4_cut_35 : decode cX4_cut 35 = .ok (.goto 4, 3) := by decide +kernel
theorem dX4_cut_38 : decode cX4_cut 38 = .ok (.iconst 0, 1) := by decide +kernel
theorem dX4_cut_39 : decode cX4_cut 39 = .ok (.iadd, 1) := by decide +kernel
theorem dX4_cut_40 : decode cX4_cut 40 = .ok (.putfield 83, 3) := by decide +kernel
theorem dX4_cut_43 : decode cX4_cut 43 = .ok (.aload_n 0, 1) := by decide +kernel
theorem dX4_cut_44 : decode cX4_cut 44 = .ok (.iload_n 1, 1) := by decide +kernel
theorem dX4_cut_45 : decode cX4_cut 45 = .ok (.putfield 80, 3) := by decide +kernel
theorem dX4_cut_48 : decode cX4_cut 48 = .ok (.aload_n 0, 1) := by decide +kernel
theorem dX4_cut_49 : decode cX4_cut 49 = .ok (.aload_n 0, 1) := by decide +kernel
theorem dX4_cut_50 : decode cX4_cut 50 = .ok (.getfield 58, 3) := by decide +kernel
theorem dX4_cut_53 : decode cX4_cut 53 = .ok (.ifCond .ne 7, 3) := by decide +kernel
theorem dX4_cut_56 : decode cX4_cut 56 = .ok (.iload_n 1, 1) := by decide +kernel
theorem dX4_cut_57 : decode cX4_cut 57 = .ok (.ifCond .ne 7, 3) := by decide +kernel
theorem dX4_cut_60 : decode cX4_cut 60 = .ok (.iconst 1, 1) := by decide +kernel
theorem dX4_cut_61 : decode cX4_cut 61 = .ok (.goto 4, 3) := by decide +kernel
theorem dX4_cut_64 : decode cX4_cut 64 = .ok (.iconst 0, 1) := by decide +kernel
theorem dX4_cut_65 : decode cX4_cut 65 = .ok (.putfield 58, 3) := by decide +kernel
theorem dX4_cut_68 : decode cX4_cut 68 = .ok (.iconst 1, 1) := by decide +kernel
theorem dX4_cut_69 : decode cX4_cut 69 = .ok (.ireturn, 1) := by decide +kernel
theorem dX4_restart_0 : decode cX4_restart 0 = .ok (.aload_n 0, 1) := by decide +kernel
theorem dX4_restart_1 : decode cX4_restart 1 = .ok (.iconst 0, 1) := by decide +kernel
theorem dX4_restart_2 : decode cX4_restart 2 = .ok (.putfield 54, 3) := by decide +kernel
theorem dX4_restart_5 : decode cX4_restart 5 = .ok (.aload_n 0, 1) := by decide +kernel
theorem dX4_restart_6 : decode cX4_restart 6 = .ok (.getfield 58, 3) := by decide +kernel
theorem dX4_restart_9 : decode cX4_restart 9 = .ok (.ifCond .ne 6, 3) := by decide +kernel
theorem dX4_restart_12 : decode cX4_restart 12 = .ok (.bipush (-5), 2) := by decide +kernel
theorem dX4_restart_14 : decode cX4_restart 14 = .ok (.ireturn, 1) := by decide +kernel
theorem dX4_restart_15 : decode cX4_restart 15 = .ok (.iload_n 1, 1) := by decide +kernel
theorem dX4_restart_16 : decode cX4_restart 16 = .ok (.iconst 1, 1) := by decide +kernel
theorem dX4_restart_17 : decode cX4_restart 17 = .ok (.if_icmp .lt 11, 3) := by decide +kernel
theorem dX4_restart_20 : decode cX4_restart 20 = .ok (.iload_n 1, 1) := by decide +kernel
theorem dX4_restart_21 : decode cX4_restart 21 = .ok (.aload_n 0, 1) := by decide +kernel
theorem dX4_restart_22 : decode cX4_restart 22 = .ok (.getfield 77, 3) := by decide +kernel
theorem dX4_restart_25 : decode cX4_restart 25 = .ok (.if_icmp .le 5, 3) := by decide +kernel
theorem dX4_restart_28 : decode cX4_restart 28 = .ok (.iconst (-1), 1) := by decide +kernel
theorem dX4_restart_29 : decode cX4_restart 29 = .ok (.ireturn, 1) := by decide +kernel
theorem dX4_restart_30 : decode cX4_restart 30 = .ok (.iload_n 1, 1) := by decide +kernel
theorem dX4_restart_31 : decode cX4_restart 31 = .ok (.istore_n 2, 1) := by decide +kernel
theorem dX4_restart_32 : decode cX4_restart 32 = .ok (.iload_n 2, 1) := by decide +kernel
theorem dX4_restart_33 : decode cX4_restart 33 = .ok (.ifCond .le 18, 3) := by decide +kernel
theorem dX4_restart_36 : decode cX4_restart 36 = .ok (.aload_n 0, 1) := by decide +kernel
theorem dX4_restart_37 : decode cX4_restart 37 = .ok (.getfield 50, 3) := by decide +kernel
theorem dX4_restart_40 : decode cX4_restart 40 = .ok (.iload_n 2, 1) := by decide +kernel
theorem dX4_restart_41 : decode cX4_restart 41 = .ok (.baload, 1) := by decide +kernel
theorem dX4_restart_42 : decode cX4_restart 42 = .ok (.ifCond .ne 9, 3) := by decide +kernel
theorem dX4_restart_45 : decode cX4_restart 45 = .ok (.iinc 2 (-1), 3) := by decide +kernel
theorem dX4_restart_48 : decode cX4_restart 48 = .ok (.goto (-16), 3) := by decide +kernel
theorem dX4_restart_51 : decode cX4_restart 51 = .ok (.iload_n 2, 1) := by decide +kernel
theorem dX4_restart_52 : decode cX4_restart 52 = .ok (.ifCond .ne 5, 3) := by decide +kernel
theorem dX4_restart_55 : decode cX4_restart 55 = .ok (.iconst (-1), 1) := by decide +kernel
theorem dX4_restart_56 : decode cX4_restart 56 = .ok (.ireturn, 1) := by decide +kernel
theorem dX4_restart_57 : decode cX4_restart 57 = .ok (.aload_n 0, 1) := by decide +kernel
theorem dX4_restart_58 : decode cX4_restart 58 = .ok (.getfield 47, 3) := by decide +kernel
theorem dX4_restart_61 : decode cX4_restart 61 = .ok (.iload_n 2, 1) := by decide +kernel
theorem dX4_restart_62 : decode cX4_restart 62 = .ok (.iaload, 1) := by decide +kernel
theorem dX4_restart_63 : decode cX4_restart 63 = .ok (.aload_n 0, 1) := by decide +kernel
theorem dX4_restart_64 : decode cX4_restart 64 = .ok (.getfield 86, 3) := by decide +kernel
theorem dX4_restart_67 : decode cX4_restart 67 = .ok (.if_icmp .eq 6, 3) := by decide +kernel
theorem dX4_restart_70 : decode cX4_restart 70 = .ok (.bipush (-3), 2) := by decide +kernel
theorem dX4_restart_72 : decode cX4_restart 72 = .ok (.ireturn, 1) := by decide +kernel
theorem dX4_restart_73 : decode cX4_restart 73 = .ok (.iconst 0, 1) := by decide +kernel
theorem dX4_restart_74 : decode cX4_restart 74 = .ok (.istore_n 3, 1) := by decide +kernel
theorem dX4_restart_75 : decode cX4_restart 75 = .ok (.iload_n 3, 1) := by decide +kernel
theorem dX4_restart_76 : decode cX4_restart 76 = .ok (.aload_n 0, 1) := by decide +kernel
theorem dX4_restart_77 : decode cX4_restart 77 = .ok (.getfield 41, 3) := by decide +kernel
theorem dX4_restart_80 : decode cX4_restart 80 = .ok (.iload_n 2, 1) := by decide +kernel
theorem dX4_restart_81 : decode cX4_restart 81 = .ok (.iaload, 1) := by decide +kernel
theorem dX4_restart_82 : decode cX4_restart 82 = .ok (.if_icmp .ge 32, 3) := by decide +kernel
theorem dX4_restart_85 : decode cX4_restart 85 = .ok (.aload_n 0, 1) := by decide +kernel
theorem dX4_restart_86 : decode cX4_restart 86 = .ok (.getfield 19, 3) := by decide +kernel
theorem dX4_restart_89 : decode cX4_restart 89 = .ok (.iload_n 3, 1) := by decide +kernel
theorem dX4_restart_90 : decode cX4_restart 90 = .ok (.iaload, 1) := by decide +kernel
theorem dX4_restart_91 : decode cX4_restart 91 = .ok (.aload_n 0, 1) := by decide +kernel
theorem dX4_restart_92 : decode cX4_restart 92 = .ok (.getfield 35, 3) := by decide +kernel
theorem dX4_restart_95 : decode cX4_restart 95 = .ok (.bipush 6, 2) := by decide +kernel
theorem dX4_restart_97 : decode cX4_restart 97 = .ok (.iload_n 2, 1) := by decide +kernel
theorem dX4_restart_98 : decode cX4_restart 98 = .ok (.imul, 1) := by decide +kernel
theorem dX4_restart_99 : decode cX4_restart 99 = .ok (.iload_n 3, 1) := by decide +kernel
theorem dX4_restart_100 : decode cX4_restart 100 = .ok (.iadd, 1) := by decide +kernel
theorem dX4_restart_101 : decode cX4_restart 101 = .ok (.iaload, 1) := by decide +kernel
theorem dX4_restart_102 : decode cX4_restart 102 = .ok (.if_icmp .ge 6, 3) := by decide +kernel
theorem dX4_restart_105 : decode cX4_restart 105 = .ok (.bipush (-2), 2) := by decide +kernel
theorem dX4_restart_107 : decode cX4_restart 107 = .ok (.ireturn, 1) := by decide +kernel
theorem dX4_restart_108 : decode cX4_restart 108 = .ok (.iinc 3 1, 3) := by decide +kernel
theorem dX4_restart_111 : decode cX4_restart 111 = .ok (.goto (-36), 3) := by decide +kernel
theorem dX4_restart_114 : decode cX4_restart 114 = .ok (.iconst 0, 1) := by decide +kernel
theorem dX4_restart_115 : decode cX4_restart 115 = .ok (.istore_n 3, 1) := by decide +kernel
theorem dX4_restart_116 : decode cX4_restart 116 = .ok (.iload_n 3, 1) := by decide +kernel
theorem dX4_restart_117 : decode cX4_restart 117 = .ok (.aload_n 0, 1) := by decide +kernel
theorem dX4_restart_118 : decode cX4_restart 118 = .ok (.getfield 65, 3) := by decide +kernel
theorem dX4_restart_121 : decode cX4_restart 121 = .ok (.if_icmp .ge 45, 3) := by decide +kernel
theorem dX4_restart_124 : decode cX4_restart 124 = .ok (.aload_n 0, 1) := by decide +kernel
theorem dX4_restart_125 : decode cX4_restart 125 = .ok (.getfield 7, 3) := by decide +kernel
theorem dX4_restart_128 : decode cX4_restart 128 = .ok (.iload_n 3, 1) := by decide +kernel
theorem dX4_restart_129 : decode cX4_restart 129 = .ok (.iload_n 3, 1) := by decide +kernel
theorem dX4_restart_130 : decode cX4_restart 130 = .ok (.aload_n 0, 1) := by decide +kernel
theorem dX4_restart_131 : decode cX4_restart 131 = .ok (.getfield 38, 3) := by decide +kernel
theorem dX4_restart_134 : decode cX4_restart 134 = .ok (.iload_n 2, 1) := by decide +kernel
theorem dX4_restart_135 : decode cX4_restart 135 = .ok (.iaload, 1) := by decide +kernel
theorem dX4_restart_136 : decode cX4_restart 136 = .ok (.if_icmp .ge 17, 3) := by decide +kernel
theorem dX4_restart_139 : decode cX4_restart 139 = .ok (.aload_n 0, 1) := by decide +kernel
theorem dX4_restart_140 : decode cX4_restart 140 = .ok (.getfield 32, 3) := by decide +kernel
theorem dX4_restart_143 : decode cX4_restart 143 = .ok (.bipush 12, 2) := by decide +kernel
theorem dX4_restart_145 : decode cX4_restart 145 = .ok (.iload_n 2, 1) := by decide +kernel
theorem dX4_restart_146 : decode cX4_restart 146 = .ok (.imul, 1) := by decide +kernel
theorem dX4_restart_147 : decode cX4_restart 147 = .ok (.iload_n 3, 1) := by decide +kernel
theorem dX4_restart_148 : decode cX4_restart 148 = .ok (.iadd, 1) := by decide +kernel
theorem dX4_restart_149 : decode cX4_restart 149 = .ok (.laload, 1) := by decide +kernel
theorem dX4_restart_150 : decode cX4_restart 150 = .ok (.goto 9, 3) := by decide +kernel
theorem dX4_restart_153 : decode cX4_restart 153 = .ok (.aload_n 0, 1) := by decide +kernel
theorem dX4_restart_154 : decode cX4_restart 154 = .ok (.getfield 13, 3) := by decide +kernel
theorem dX4_restart_157 : decode cX4_restart 157 = .ok (.iload_n 3, 1) := by decide +kernel
theorem dX4_restart_158 : decode cX4_restart 158 = .ok (.laload, 1) := by decide +kernel
theorem dX4_restart_159 : decode cX4_restart 159 = .ok (.lastore, 1) := by decide +kernel
theorem dX4_restart_160 : decode cX4_restart 160 = .ok (.iinc 3 1, 3) := by decide +kernel
theorem dX4_restart_163 : decode cX4_restart 163 = .ok (.goto (-47), 3) := by decide +kernel
theorem dX4_restart_166 : decode cX4_restart 166 = .ok (.iconst 0, 1) := by decide +kernel
theorem dX4_restart_167 : decode cX4_restart 167 = .ok (.istore_n 3, 1) := by decide +kernel
theorem dX4_restart_168 : decode cX4_restart 168 = .ok (.iload_n 3, 1) := by decide +kernel
theorem dX4_restart_169 : decode cX4_restart 169 = .ok (.aload_n 0, 1) := by decide +kernel
theorem dX4_restart_170 : decode cX4_restart 170 = .ok (.getfield 68, 3) := by decide +kernel
theorem dX4_restart_173 : decode cX4_restart 173 = .ok (.if_icmp .ge 40, 3) := by decide +kernel
theorem dX4_restart_176 : decode cX4_restart 176 = .ok (.aload_n 0, 1) := by decide +kernel
theorem dX4_restart_177 : decode cX4_restart 177 = .ok (.getfield 23, 3) := by decide +kernel
theorem dX4_restart_180 : decode cX4_restart 180 = .ok (.iload_n 3, 1) := by decide +kernel
theorem dX4_restart_181 : decode cX4_restart 181 = .ok (.iload_n 3, 1) := by decide +kernel
theorem dX4_restart_182 : decode cX4_restart 182 = .ok (.aload_n 0, 1) := by decide +kernel
theorem dX4_restart_183 : decode cX4_restart 183 = .ok (.getfield 41, 3) := by decide +kernel
theorem dX4_restart_186 : decode cX4_restart 186 = .ok (.iload_n 2, 1) := by decide +kernel
theorem dX4_restart_187 : decode cX4_restart 187 = .ok (.iaload, 1) := by decide +kernel
theorem dX4_restart_188 : decode cX4_restart 188 = .ok (.if_icmp .ge 17, 3) := by decide +kernel
theorem dX4_restart_191 : decode cX4_restart 191 = .ok (.aload_n 0, 1) := by decide +kernel
theorem dX4_restart_192 : decode cX4_restart 192 = .ok (.getfield 35, 3) := by decide +kernel
theorem dX4_restart_195 : decode cX4_restart 195 = .ok (.bipush 6, 2) := by decide +kernel
theorem dX4_restart_197 : decode cX4_restart 197 = .ok (.iload_n 2, 1) := by decide +kernel
theorem dX4_restart_198 : decode cX4_restart 198 = .ok (.imul, 1) := by decide +kernel
theorem dX4_restart_199 : decode cX4_restart 199 = .ok (.iload_n 3, 1) := by decide +kernel
theorem dX4_restart_200 : decode cX4_restart 200 = .ok (.iadd, 1) := by decide +kernel
theorem dX4_restart_201 : decode cX4_restart 201 = .ok (.iaload, 1) := by decide +kernel
theorem dX4_restart_202 : decode cX4_restart 202 = .ok (.goto 4, 3) := by decide +kernel
theorem dX4_restart_205 : decode cX4_restart 205 = .ok (.iconst 0, 1) := by decide +kernel
theorem dX4_restart_206 : decode cX4_restart 206 = .ok (.iastore, 1) := by decide +kernel
theorem dX4_restart_207 : decode cX4_restart 207 = .ok (.iinc 3 1, 3) := by decide +kernel
theorem dX4_restart_210 : decode cX4_restart 210 = .ok (.goto (-42), 3) := by decide +kernel
theorem dX4_restart_213 : decode cX4_restart 213 = .ok (.aload_n 0, 1) := by decide +kernel
theorem dX4_restart_214 : decode cX4_restart 214 = .ok (.aload_n 0, 1) := by decide +kernel
theorem dX4_restart_215 : decode cX4_restart 215 = .ok (.getfield 44, 3) := by decide +kernel
theorem dX4_restart_218 : decode cX4_restart 218 = .ok (.iload_n 2, 1) := by decide +kernel
theorem dX4_restart_219 : decode cX4_restart 219 = .ok (.iaload, 1) := by decide +kernel
theorem dX4_restart_220 : decode cX4_restart 220 = .ok (.putfield 62, 3) := by decide +kernel
theorem dX4_restart_223 : decode cX4_restart 223 = .ok (.aload_n 0, 1) := by decide +kernel
theorem dX4_restart_224 : decode cX4_restart 224 = .ok (.iload_n 2, 1) := by decide +kernel
theorem dX4_restart_225 : decode cX4_restart 225 = .ok (.putfield 77, 3) := by decide +kernel
theorem dX4_restart_228 : decode cX4_restart 228 = .ok (.aload_n 0, 1) := by decide +kernel
theorem dX4_restart_229 : decode cX4_restart 229 = .ok (.iconst 0, 1) := by decide +kernel
theorem dX4_restart_230 : decode cX4_restart 230 = .ok (.putfield 58, 3) := by decide +kernel
theorem dX4_restart_233 : decode cX4_restart 233 = .ok (.iload_n 2, 1) := by decide +kernel
theorem dX4_restart_234 : decode cX4_restart 234 = .ok (.ireturn, 1) := by decide +kernel
theorem dX4_get_0 : decode cX4_get 0 = .ok (.aload_n 0, 1) := by decide +kernel
theorem dX4_get_1 : decode cX4_get 1 = .ok (.iload_n 1, 1) := by decide +kernel
theorem dX4_get_2 : decode cX4_get 2 = .ok (.ifCond .lt 11, 3) := by decide +kernel
theorem dX4_get_5 : decode cX4_get 5 = .ok (.iload_n 1, 1) := by decide +kernel
theorem dX4_get_6 : decode cX4_get 6 = .ok (.aload_n 0, 1) := by decide +kernel
theorem dX4_get_7 : decode cX4_get 7 = .ok (.getfield 65, 3) := by decide +kernel
theorem dX4_get_10 : decode cX4_get 10 = .ok (.if_icmp .lt 7, 3) := by decide +kernel
theorem dX4_get_13 : decode cX4_get 13 = .ok (.iconst 1, 1) := by decide +kernel
theorem dX4_get_14 : decode cX4_get 14 = .ok (.goto 4, 3) := by decide +kernel
theorem dX4_get_17 : decode cX4_get 17 = .ok (.iconst 0, 1) := by decide +kernel
theorem dX4_get_18 : decode cX4_get 18 = .ok (.putfield 54, 3) := by decide +kernel
theorem dX4_get_21 : decode cX4_get 21 = .ok (.aload_n 0, 1) := by decide +kernel
theorem dX4_get_22 : decode cX4_get 22 = .ok (.getfield 54, 3) := by decide +kernel
theorem dX4_get_25 : decode cX4_get 25 = .ok (.ifCond .le 7, 3) := by decide +kernel
theorem dX4_get_28 : decode cX4_get 28 = .ok (.lconst 0, 1) := by decide +kernel
theorem dX4_get_29 : decode cX4_get 29 = .ok (.goto 9, 3) := by decide +kernel
theorem dX4_get_32 : decode cX4_get 32 = .ok (.aload_n 0, 1) := by decide +kernel
theorem dX4_get_33 : decode cX4_get 33 = .ok (.getfield 7, 3) := by decide +kernel
theorem dX4_get_36 : decode cX4_get 36 = .ok (.iload_n 1, 1) := by decide +kernel
theorem dX4_get_37 : decode cX4_get 37 = .ok (.laload, 1) := by decide +kernel
theorem dX4_get_38 : decode cX4_get 38 = .ok (.lreturn, 1) := by decide +kernel
theorem dX4_position_0 : decode cX4_position 0 = .ok (.aload_n 0, 1) := by decide +kernel
theorem dX4_position_1 : decode cX4_position 1 = .ok (.iconst 0, 1) := by decide +kernel
theorem dX4_position_2 : decode cX4_position 2 = .ok (.putfield 54, 3) := by decide +kernel
theorem dX4_position_5 : decode cX4_position 5 = .ok (.iload_n 1, 1) := by decide +kernel
theorem dX4_position_6 : decode cX4_position 6 = .ok (.ifCond .lt 11, 3) := by decide +kernel
theorem dX4_position_9 : decode cX4_position 9 = .ok (.iload_n 1, 1) := by decide +kernel
theorem dX4_position_10 : decode cX4_position 10 = .ok (.aload_n 0, 1) := by decide +kernel
theorem dX4_position_11 : decode cX4_position 11 = .ok (.getfield 68, 3) := by decide +kernel
theorem dX4_position_14 : decode cX4_position 14 = .ok (.if_icmp .lt 7, 3) := by decide +kernel
theorem dX4_position_17 : decode cX4_position 17 = .ok (.iconst (-1), 1) := by decide +kernel
theorem dX4_position_18 : decode cX4_position 18 = .ok (.goto 9, 3) := by decide +kernel
theorem dX4_position_21 : decode cX4_position 21 = .ok (.aload_n 0, 1) := by decide +kernel
theorem dX4_position_22 : decode cX4_position 22 = .ok (.getfield 23, 3) := by decide +kernel
theorem dX4_position_25 : decode cX4_position 25 = .ok (.iload_n 1, 1) := by decide +kernel
theorem dX4_position_26 : decode cX4_position 26 = .ok (.iaload, 1) := by decide +kernel
theorem dX4_position_27 : decode cX4_position 27 = .ok (.ireturn, 1) := by decide +kernel
theorem dX4_grow_0 : decode cX4_grow 0 = .ok (.aload_n 0, 1) := by decide +kernel
theorem dX4_grow_1 : decode cX4_grow 1 = .ok (.iconst 0, 1) := by decide +kernel
theorem dX4_grow_2 : decode cX4_grow 2 = .ok (.putfield 54, 3) := by decide +kernel
theorem dX4_grow_5 : decode cX4_grow 5 = .ok (.iload_n 1, 1) := by decide +kernel
theorem dX4_grow_6 : decode cX4_grow 6 = .ok (.ifCond .lt 11, 3) := by decide +kernel
theorem dX4_grow_9 : decode cX4_grow 9 = .ok (.iload_n 1, 1) := by decide +kernel
theorem dX4_grow_10 : decode cX4_grow 10 = .ok (.aload_n 0, 1) := by decide +kernel
theorem dX4_grow_11 : decode cX4_grow 11 = .ok (.getfield 68, 3) := by decide +kernel
theorem dX4_grow_14 : decode cX4_grow 14 = .ok (.if_icmp .lt 5, 3) := by decide +kernel
theorem dX4_grow_17 : decode cX4_grow 17 = .ok (.iconst (-1), 1) := by decide +kernel
theorem dX4_grow_18 : decode cX4_grow 18 = .ok (.ireturn, 1) := by decide +kernel
theorem dX4_grow_19 : decode cX4_grow 19 = .ok (.aload_n 0, 1) := by decide +kernel
theorem dX4_grow_20 : decode cX4_grow 20 = .ok (.getfield 19, 3) := by decide +kernel
theorem dX4_grow_23 : decode cX4_grow 23 = .ok (.iload_n 1, 1) := by decide +kernel
theorem dX4_grow_24 : decode cX4_grow 24 = .ok (.iaload, 1) := by decide +kernel
theorem dX4_grow_25 : decode cX4_grow 25 = .ok (.i2l, 1) := by decide +kernel
theorem dX4_grow_26 : decode cX4_grow 26 = .ok (.iload_n 2, 1) := by decide +kernel
theorem dX4_grow_27 : decode cX4_grow 27 = .ok (.i2l, 1) := by decide +kernel
theorem dX4_grow_28 : decode cX4_grow 28 = .ok (.ladd, 1) := by decide +kernel
theorem dX4_grow_29 : decode cX4_grow 29 = .ok (.lstore_n 3, 1) := by decide +kernel
theorem dX4_grow_30 : decode cX4_grow 30 = .ok (.lload_n 3, 1) := by decide +kernel
theorem dX4_grow_31 : decode cX4_grow 31 = .ok (.lconst 0, 1) := by decide +kernel
theorem dX4_grow_32 : decode cX4_grow 32 = .ok (.lcmp, 1) := by decide +kernel
theorem dX4_grow_33 : decode cX4_grow 33 = .ok (.ifCond .lt 11, 3) := by decide +kernel
theorem dX4_grow_36 : decode cX4_grow 36 = .ok (.lload_n 3, 1) := by decide +kernel
theorem dX4_grow_37 : decode cX4_grow 37 = .ok (.ldc2_w 89, 3) := by decide +kernel
theorem dX4_grow_40 : decode cX4_grow 40 = .ok (.lcmp, 1) := by decide +kernel
theorem dX4_grow_41 : decode cX4_grow 41 = .ok (.ifCond .le 6, 3) := by decide +kernel
theorem dX4_grow_44 : decode cX4_grow 44 = .ok (.bipush (-4), 2) := by decide +kernel
theorem dX4_grow_46 : decode cX4_grow 46 = .ok (.ireturn, 1) := by decide +kernel
theorem dX4_grow_47 : decode cX4_grow 47 = .ok (.aload_n 0, 1) := by decide +kernel
theorem dX4_grow_48 : decode cX4_grow 48 = .ok (.getfield 19, 3) := by decide +kernel
theorem dX4_grow_51 : decode cX4_grow 51 = .ok (.iload_n 1, 1) := by decide +kernel
theorem dX4_grow_52 : decode cX4_grow 52 = .ok (.lload_n 3, 1) := by decide +kernel
theorem dX4_grow_53 : decode cX4_grow 53 = .ok (.l2i, 1) := by decide +kernel
theorem dX4_grow_54 : decode cX4_grow 54 = .ok (.iastore, 1) := by decide +kernel
theorem dX4_grow_55 : decode cX4_grow 55 = .ok (.aload_n 0, 1) := by decide +kernel
theorem dX4_grow_56 : decode cX4_grow 56 = .ok (.getfield 19, 3) := by decide +kernel
theorem dX4_grow_59 : decode cX4_grow 59 = .ok (.iload_n 1, 1) := by decide +kernel
theorem dX4_grow_60 : decode cX4_grow 60 = .ok (.iaload, 1) := by decide +kernel
theorem dX4_grow_61 : decode cX4_grow 61 = .ok (.ireturn, 1) := by decide +kernel
theorem dX4_edition_0 : decode cX4_edition 0 = .ok (.aload_n 0, 1) := by decide +kernel
theorem dX4_edition_1 : decode cX4_edition 1 = .ok (.iconst 0, 1) := by decide +kernel
theorem dX4_edition_2 : decode cX4_edition 2 = .ok (.putfield 54, 3) := by decide +kernel
theorem dX4_edition_5 : decode cX4_edition 5 = .ok (.aload_n 0, 1) := by decide +kernel
theorem dX4_edition_6 : decode cX4_edition 6 = .ok (.getfield 86, 3) := by decide +kernel
theorem dX4_edition_9 : decode cX4_edition 9 = .ok (.istore_n 2, 1) := by decide +kernel
theorem dX4_edition_10 : decode cX4_edition 10 = .ok (.aload_n 0, 1) := by decide +kernel
theorem dX4_edition_11 : decode cX4_edition 11 = .ok (.iload_n 1, 1) := by decide +kernel
theorem dX4_edition_12 : decode cX4_edition 12 = .ok (.putfield 86, 3) := by decide +kernel
theorem dX4_edition_15 : decode cX4_edition 15 = .ok (.iload_n 2, 1) := by decide +kernel
theorem dX4_edition_16 : decode cX4_edition 16 = .ok (.ireturn, 1) := by decide +kernel
theorem dX4_output_0 : decode cX4_output 0 = .ok (.aload_n 0, 1) := by decide +kernel
theorem dX4_output_1 : decode cX4_output 1 = .ok (.iconst 0, 1) := by decide +kernel
theorem dX4_output_2 : decode cX4_output 2 = .ok (.putfield 54, 3) := by decide +kernel
theorem dX4_output_5 : decode cX4_output 5 = .ok (.iload_n 1, 1) := by decide +kernel
theorem dX4_output_6 : decode cX4_output 6 = .ok (.ifCond .lt 21, 3) := by decide +kernel
theorem dX4_output_9 : decode cX4_output 9 = .ok (.iload_n 1, 1) := by decide +kernel
theorem dX4_output_10 : decode cX4_output 10 = .ok (.aload_n 0, 1) := by decide +kernel
theorem dX4_output_11 : decode cX4_output 11 = .ok (.getfield 62, 3) := by decide +kernel
theorem dX4_output_14 : decode cX4_output 14 = .ok (.if_icmp .ge 13, 3) := by decide +kernel
theorem dX4_output_17 : decode cX4_output 17 = .ok (.aload_n 0, 1) := by decide +kernel
theorem dX4_output_18 : decode cX4_output 18 = .ok (.getfield 29, 3) := by decide +kernel
theorem dX4_output_21 : decode cX4_output 21 = .ok (.iload_n 1, 1) := by decide +kernel
theorem dX4_output_22 : decode cX4_output 22 = .ok (.laload, 1) := by decide +kernel
theorem dX4_output_23 : decode cX4_output 23 = .ok (.l2i, 1) := by decide +kernel
theorem dX4_output_24 : decode cX4_output 24 = .ok (.goto 4, 3) := by decide +kernel
theorem dX4_output_27 : decode cX4_output 27 = .ok (.iconst 0, 1) := by decide +kernel
theorem dX4_output_28 : decode cX4_output 28 = .ok (.ireturn, 1) := by decide +kernel
theorem dX4_torn_0 : decode cX4_torn 0 = .ok (.aload_n 0, 1) := by decide +kernel
theorem dX4_torn_1 : decode cX4_torn 1 = .ok (.iconst 0, 1) := by decide +kernel
theorem dX4_torn_2 : decode cX4_torn 2 = .ok (.putfield 54, 3) := by decide +kernel
theorem dX4_torn_5 : decode cX4_torn 5 = .ok (.iload_n 1, 1) := by decide +kernel
theorem dX4_torn_6 : decode cX4_torn 6 = .ok (.iconst 1, 1) := by decide +kernel
theorem dX4_torn_7 : decode cX4_torn 7 = .ok (.if_icmp .lt 11, 3) := by decide +kernel
theorem dX4_torn_10 : decode cX4_torn 10 = .ok (.iload_n 1, 1) := by decide +kernel
theorem dX4_torn_11 : decode cX4_torn 11 = .ok (.aload_n 0, 1) := by decide +kernel
theorem dX4_torn_12 : decode cX4_torn 12 = .ok (.getfield 77, 3) := by decide +kernel
theorem dX4_torn_15 : decode cX4_torn 15 = .ok (.if_icmp .le 7, 3) := by decide +kernel
theorem dX4_torn_18 : decode cX4_torn 18 = .ok (.iconst (-1), 1) := by decide +kernel
theorem dX4_torn_19 : decode cX4_torn 19 = .ok (.goto 17, 3) := by decide +kernel
theorem dX4_torn_22 : decode cX4_torn 22 = .ok (.aload_n 0, 1) := by decide +kernel
theorem dX4_torn_23 : decode cX4_torn 23 = .ok (.getfield 50, 3) := by decide +kernel
theorem dX4_torn_26 : decode cX4_torn 26 = .ok (.iload_n 1, 1) := by decide +kernel
theorem dX4_torn_27 : decode cX4_torn 27 = .ok (.baload, 1) := by decide +kernel
theorem dX4_torn_28 : decode cX4_torn 28 = .ok (.ifCond .eq 7, 3) := by decide +kernel
theorem dX4_torn_31 : decode cX4_torn 31 = .ok (.iconst 0, 1) := by decide +kernel
theorem dX4_torn_32 : decode cX4_torn 32 = .ok (.goto 4, 3) := by decide +kernel
theorem dX4_torn_35 : decode cX4_torn 35 = .ok (.iconst 1, 1) := by decide +kernel
theorem dX4_torn_36 : decode cX4_torn 36 = .ok (.ireturn, 1) := by decide +kernel
theorem dX4_row_0 : decode cX4_row 0 = .ok (.aload_n 0, 1) := by decide +kernel
theorem dX4_row_1 : decode cX4_row 1 = .ok (.iload_n 1, 1) := by decide +kernel
theorem dX4_row_2 : decode cX4_row 2 = .ok (.ifCond .lt 15, 3) := by decide +kernel
theorem dX4_row_5 : decode cX4_row 5 = .ok (.iload_n 1, 1) := by decide +kernel
theorem dX4_row_6 : decode cX4_row 6 = .ok (.aload_n 0, 1) := by decide +kernel
theorem dX4_row_7 : decode cX4_row 7 = .ok (.getfield 62, 3) := by decide +kernel
theorem dX4_row_10 : decode cX4_row 10 = .ok (.if_icmp .ge 7, 3) := by decide +kernel
theorem dX4_row_13 : decode cX4_row 13 = .ok (.iconst 0, 1) := by decide +kernel
theorem dX4_row_14 : decode cX4_row 14 = .ok (.goto 4, 3) := by decide +kernel
theorem dX4_row_17 : decode cX4_row 17 = .ok (.iconst 1, 1) := by decide +kernel
theorem dX4_row_18 : decode cX4_row 18 = .ok (.putfield 54, 3) := by decide +kernel
theorem dX4_row_21 : decode cX4_row 21 = .ok (.aload_n 0, 1) := by decide +kernel
theorem dX4_row_22 : decode cX4_row 22 = .ok (.getfield 54, 3) := by decide +kernel
theorem dX4_row_25 : decode cX4_row 25 = .ok (.ifCond .le 7, 3) := by decide +kernel
theorem dX4_row_28 : decode cX4_row 28 = .ok (.iconst 0, 1) := by decide +kernel
theorem dX4_row_29 : decode cX4_row 29 = .ok (.goto 13, 3) := by decide +kernel
theorem dX4_row_32 : decode cX4_row 32 = .ok (.aload_n 0, 1) := by decide +kernel
theorem dX4_row_33 : decode cX4_row 33 = .ok (.getfield 29, 3) := by decide +kernel
theorem dX4_row_36 : decode cX4_row 36 = .ok (.iload_n 1, 1) := by decide +kernel
theorem dX4_row_37 : decode cX4_row 37 = .ok (.laload, 1) := by decide +kernel
theorem dX4_row_38 : decode cX4_row 38 = .ok (.bipush 32, 2) := by decide +kernel
theorem dX4_row_40 : decode cX4_row 40 = .ok (.lshr, 1) := by decide +kernel
theorem dX4_row_41 : decode cX4_row 41 = .ok (.l2i, 1) := by decide +kernel
theorem dX4_row_42 : decode cX4_row 42 = .ok (.ireturn, 1) := by decide +kernel
theorem dX4_isOver_0 : decode cX4_isOver 0 = .ok (.iconst 1, 1) := by decide +kernel
theorem dX4_isOver_1 : decode cX4_isOver 1 = .ok (.istore_n 1, 1) := by decide +kernel
theorem dX4_isOver_2 : decode cX4_isOver 2 = .ok (.iconst 0, 1) := by decide +kernel
theorem dX4_isOver_3 : decode cX4_isOver 3 = .ok (.istore_n 2, 1) := by decide +kernel
theorem dX4_isOver_4 : decode cX4_isOver 4 = .ok (.iload_n 2, 1) := by decide +kernel
theorem dX4_isOver_5 : decode cX4_isOver 5 = .ok (.aload_n 0, 1) := by decide +kernel
theorem dX4_isOver_6 : decode cX4_isOver 6 = .ok (.getfield 68, 3) := by decide +kernel
theorem dX4_isOver_9 : decode cX4_isOver 9 = .ok (.if_icmp .ge 34, 3) := by decide +kernel
theorem dX4_isOver_12 : decode cX4_isOver 12 = .ok (.iload_n 1, 1) := by decide +kernel
theorem dX4_isOver_13 : decode cX4_isOver 13 = .ok (.ifCond .eq 22, 3) := by decide +kernel
theorem dX4_isOver_16 : decode cX4_isOver 16 = .ok (.aload_n 0, 1) := by decide +kernel
theorem dX4_isOver_17 : decode cX4_isOver 17 = .ok (.getfield 26, 3) := by decide +kernel
theorem dX4_isOver_20 : decode cX4_isOver 20 = .ok (.iload_n 2, 1) := by decide +kernel
theorem dX4_isOver_21 : decode cX4_isOver 21 = .ok (.iaload, 1) := by decide +kernel
theorem dX4_isOver_22 : decode cX4_isOver 22 = .ok (.aload_n 0, 1) := by decide +kernel
theorem dX4_isOver_23 : decode cX4_isOver 23 = .ok (.getfield 19, 3) := by decide +kernel
theorem dX4_isOver_26 : decode cX4_isOver 26 = .ok (.iload_n 2, 1) := by decide +kernel
theorem dX4_isOver_27 : decode cX4_isOver 27 = .ok (.iaload, 1) := by decide +kernel
theorem dX4_isOver_28 : decode cX4_isOver 28 = .ok (.if_icmp .lt 7, 3) := by decide +kernel
theorem dX4_isOver_31 : decode cX4_isOver 31 = .ok (.iconst 1, 1) := by decide +kernel
theorem dX4_isOver_32 : decode cX4_isOver 32 = .ok (.goto 4, 3) := by decide +kernel
theorem dX4_isOver_35 : decode cX4_isOver 35 = .ok (.iconst 0, 1) := by decide +kernel
theorem dX4_isOver_36 : decode cX4_isOver 36 = .ok (.istore_n 1, 1) := by decide +kernel
theorem dX4_isOver_37 : decode cX4_isOver 37 = .ok (.iinc 2 1, 3) := by decide +kernel
theorem dX4_isOver_40 : decode cX4_isOver 40 = .ok (.goto (-36), 3) := by decide +kernel
theorem dX4_isOver_43 : decode cX4_isOver 43 = .ok (.iload_n 1, 1) := by decide +kernel
theorem dX4_isOver_44 : decode cX4_isOver 44 = .ok (.ireturn, 1) := by decide +kernel
set_option maxRecDepth 20000 in
theorem ggX4_equal_X4_isOver : GoodIn wsX4_equal wsX4_isOver := goodIn_r _ [16, 5, 6, 8, 17, 18, 19, 20, 21, 22, 23, 24, 25, 26, 27, 28, 29, 30, 31, 32, 33, 34, 35, 36, 37, 38, 39] rfl (by decide +kernel)
set_option maxRecDepth 20000 in
theorem gX4_equal_X4_isOver : GoodIn wsX4_equal (wsV RX4 91 RX4 yX4_isOver wsX4_isOver) := goodIn_app (goodIn_of _ (by decide +kernel)) ggX4_equal_X4_isOver
theorem dX4_equal_0 : decode cX4_equal 0 = .ok (.aload_n 0, 1) := by decide +kernel
theorem dX4_equal_1 : decode cX4_equal 1 = .ok (.iconst 0, 1) := by decide +kernel
theorem dX4_equal_2 : decode cX4_equal 2 = .ok (.putfield 54, 3) := by decide +kernel
theorem dX4_equal_5 : decode cX4_equal 5 = .ok (.iconst 0, 1) := by decide +kernel
theorem dX4_equal_6 : decode cX4_equal 6 = .ok (.istore_n 1, 1) := by decide +kernel
theorem dX4_equal_7 : decode cX4_equal 7 = .ok (.iload_n 1, 1) := by decide +kernel
theorem dX4_equal_8 : decode cX4_equal 8 = .ok (.aload_n 0, 1) := by decide +kernel
theorem dX4_equal_9 : decode cX4_equal 9 = .ok (.getfield 65, 3) := by decide +kernel
theorem dX4_equal_12 : decode cX4_equal 12 = .ok (.if_icmp .ge 21, 3) := by decide +kernel
theorem dX4_equal_15 : decode cX4_equal 15 = .ok (.aload_n 0, 1) := by decide +kernel
theorem dX4_equal_16 : decode cX4_equal 16 = .ok (.getfield 16, 3) := by decide +kernel
theorem dX4_equal_19 : decode cX4_equal 19 = .ok (.iload_n 1, 1) := by decide +kernel
theorem dX4_equal_20 : decode cX4_equal 20 = .ok (.aload_n 0, 1) := by decide +kernel
theorem dX4_equal_21 : decode cX4_equal 21 = .ok (.getfield 13, 3) := by decide +kernel
theorem dX4_equal_24 : decode cX4_equal 24 = .ok (.iload_n 1, 1) := by decide +kernel
theorem dX4_equal_25 : decode cX4_equal 25 = .ok (.laload, 1) := by decide +kernel
theorem dX4_equal_26 : decode cX4_equal 26 = .ok (.lastore, 1) := by decide +kernel
theorem dX4_equal_27 : decode cX4_equal 27 = .ok (.iinc 1 1, 3) := by decide +kernel
theorem dX4_equal_30 : decode cX4_equal 30 = .ok (.goto (-23), 3) := by decide +kernel
theorem dX4_equal_33 : decode cX4_equal 33 = .ok (.iconst 0, 1) := by decide +kernel
theorem dX4_equal_34 : decode cX4_equal 34 = .ok (.istore_n 1, 1) := by decide +kernel
theorem dX4_equal_35 : decode cX4_equal 35 = .ok (.iload_n 1, 1) := by decide +kernel
theorem dX4_equal_36 : decode cX4_equal 36 = .ok (.aload_n 0, 1) := by decide +kernel
theorem dX4_equal_37 : decode cX4_equal 37 = .ok (.getfield 68, 3) := by decide +kernel
theorem dX4_equal_40 : decode cX4_equal 40 = .ok (.if_icmp .ge 16, 3) := by decide +kernel
theorem dX4_equal_43 : decode cX4_equal 43 = .ok (.aload_n 0, 1) := by decide +kernel
theorem dX4_equal_44 : decode cX4_equal 44 = .ok (.getfield 26, 3) := by decide +kernel
theorem dX4_equal_47 : decode cX4_equal 47 = .ok (.iload_n 1, 1) := by decide +kernel
theorem dX4_equal_48 : decode cX4_equal 48 = .ok (.iconst 0, 1) := by decide +kernel
theorem dX4_equal_49 : decode cX4_equal 49 = .ok (.iastore, 1) := by decide +kernel
theorem dX4_equal_50 : decode cX4_equal 50 = .ok (.iinc 1 1, 3) := by decide +kernel
theorem dX4_equal_53 : decode cX4_equal 53 = .ok (.goto (-18), 3) := by decide +kernel
theorem dX4_equal_56 : decode cX4_equal 56 = .ok (.iconst 1, 1) := by decide +kernel
theorem dX4_equal_57 : decode cX4_equal 57 = .ok (.istore_n 1, 1) := by decide +kernel
theorem dX4_equal_58 : decode cX4_equal 58 = .ok (.iconst 1, 1) := by decide +kernel
theorem dX4_equal_59 : decode cX4_equal 59 = .ok (.istore_n 2, 1) := by decide +kernel
theorem dX4_equal_60 : decode cX4_equal 60 = .ok (.iload_n 2, 1) := by decide +kernel
theorem dX4_equal_61 : decode cX4_equal 61 = .ok (.aload_n 0, 1) := by decide +kernel
theorem dX4_equal_62 : decode cX4_equal 62 = .ok (.getfield 62, 3) := by decide +kernel
theorem dX4_equal_65 : decode cX4_equal 65 = .ok (.if_icmp .gt 159, 3) := by decide +kernel
theorem dX4_equal_68 : decode cX4_equal 68 = .ok (.aload_n 0, 1) := by decide +kernel
theorem dX4_equal_69 : decode cX4_equal 69 = .ok (.invokevirtual 91, 3) := by decide +kernel
theorem dX4_equal_72 : decode cX4_equal 72 = .ok (.ifCond .eq 5, 3) := by decide +kernel
theorem dX4_equal_75 : decode cX4_equal 75 = .ok (.iconst 0, 1) := by decide +kernel
theorem dX4_equal_76 : decode cX4_equal 76 = .ok (.ireturn, 1) := by decide +kernel
theorem dX4_equal_77 : decode cX4_equal 77 = .ok (.iload_n 2, 1) := by decide +kernel
theorem dX4_equal_78 : decode cX4_equal 78 = .ok (.iconst 1, 1) := by decide +kernel
theorem dX4_equal_79 : decode cX4_equal 79 = .ok (.isub, 1) := by decide +kernel
theorem dX4_equal_80 : decode cX4_equal 80 = .ok (.aload_n 0, 1) := by decide +kernel
theorem dX4_equal_81 : decode cX4_equal 81 = .ok (.getfield 68, 3) := by decide +kernel
theorem dX4_equal_84 : decode cX4_equal 84 = .ok (.irem, 1) := by decide +kernel
theorem dX4_equal_85 : decode cX4_equal 85 = .ok (.istore_n 3, 1) := by decide +kernel
theorem dX4_equal_86 : decode cX4_equal 86 = .ok (.aload_n 0, 1) := by decide +kernel
theorem dX4_equal_87 : decode cX4_equal 87 = .ok (.getfield 26, 3) := by decide +kernel
theorem dX4_equal_90 : decode cX4_equal 90 = .ok (.iload_n 3, 1) := by decide +kernel
theorem dX4_equal_91 : decode cX4_equal 91 = .ok (.iaload, 1) := by decide +kernel
theorem dX4_equal_92 : decode cX4_equal 92 = .ok (.aload_n 0, 1) := by decide +kernel
theorem dX4_equal_93 : decode cX4_equal 93 = .ok (.getfield 19, 3) := by decide +kernel
theorem dX4_equal_96 : decode cX4_equal 96 = .ok (.iload_n 3, 1) := by decide +kernel
theorem dX4_equal_97 : decode cX4_equal 97 = .ok (.iaload, 1) := by decide +kernel
theorem dX4_equal_98 : decode cX4_equal 98 = .ok (.if_icmp .ge 7, 3) := by decide +kernel
theorem dX4_equal_101 : decode cX4_equal 101 = .ok (.iconst 1, 1) := by decide +kernel
theorem dX4_equal_102 : decode cX4_equal 102 = .ok (.goto 4, 3) := by decide +kernel
theorem dX4_equal_105 : decode cX4_equal 105 = .ok (.iconst 0, 1) := by decide +kernel
theorem dX4_equal_106 : decode cX4_equal 106 = .ok (.istore 4, 2) := by decide +kernel
theorem dX4_equal_108 : decode cX4_equal 108 = .ok (.ldc2_w 75, 3) := by decide +kernel
theorem dX4_equal_111 : decode cX4_equal 111 = .ok (.iload_n 3, 1) := by decide +kernel
theorem dX4_equal_112 : decode cX4_equal 112 = .ok (.iconst 1, 1) := by decide +kernel
theorem dX4_equal_113 : decode cX4_equal 113 = .ok (.iadd, 1) := by decide +kernel
theorem dX4_equal_114 : decode cX4_equal 114 = .ok (.i2l, 1) := by decide +kernel
theorem dX4_equal_115 : decode cX4_equal 115 = .ok (.lmul, 1) := by decide +kernel
theorem dX4_equal_116 : decode cX4_equal 116 = .ok (.aload_n 0, 1) := by decide +kernel
theorem dX4_equal_117 : decode cX4_equal 117 = .ok (.getfield 26, 3) := by decide +kernel
theorem dX4_equal_120 : decode cX4_equal 120 = .ok (.iload_n 3, 1) := by decide +kernel
theorem dX4_equal_121 : decode cX4_equal 121 = .ok (.iaload, 1) := by decide +kernel
theorem dX4_equal_122 : decode cX4_equal 122 = .ok (.i2l, 1) := by decide +kernel
theorem dX4_equal_123 : decode cX4_equal 123 = .ok (.ladd, 1) := by decide +kernel
theorem dX4_equal_124 : decode cX4_equal 124 = .ok (.lstore 5, 2) := by decide +kernel
theorem dX4_equal_126 : decode cX4_equal 126 = .ok (.aload_n 0, 1) := by decide +kernel
theorem dX4_equal_127 : decode cX4_equal 127 = .ok (.getfield 26, 3) := by decide +kernel
theorem dX4_equal_130 : decode cX4_equal 130 = .ok (.iload_n 3, 1) := by decide +kernel
theorem dX4_equal_131 : decode cX4_equal 131 = .ok (.dup2, 1) := by decide +kernel
theorem dX4_equal_132 : decode cX4_equal 132 = .ok (.iaload, 1) := by decide +kernel
theorem dX4_equal_133 : decode cX4_equal 133 = .ok (.iload 4, 2) := by decide +kernel
theorem dX4_equal_135 : decode cX4_equal 135 = .ok (.ifCond .eq 7, 3) := by decide +kernel
theorem dX4_equal_138 : decode cX4_equal 138 = .ok (.iconst 1, 1) := by decide +kernel
theorem dX4_equal_139 : decode cX4_equal 139 = .ok (.goto 4, 3) := by decide +kernel
theorem dX4_equal_142 : decode cX4_equal 142 = .ok (.iconst 0, 1) := by decide +kernel
theorem dX4_equal_143 : decode cX4_equal 143 = .ok (.iadd, 1) := by decide +kernel
theorem dX4_equal_144 : decode cX4_equal 144 = .ok (.iastore, 1) := by decide +kernel
theorem dX4_equal_145 : decode cX4_equal 145 = .ok (.aload_n 0, 1) := by decide +kernel
theorem dX4_equal_146 : decode cX4_equal 146 = .ok (.getfield 65, 3) := by decide +kernel
theorem dX4_equal_149 : decode cX4_equal 149 = .ok (.ifCond .ne 6, 3) := by decide +kernel
theorem dX4_equal_152 : decode cX4_equal 152 = .ok (.goto 66, 3) := by decide +kernel
theorem dX4_equal_155 : decode cX4_equal 155 = .ok (.iload_n 2, 1) := by decide +kernel
theorem dX4_equal_156 : decode cX4_equal 156 = .ok (.iconst 1, 1) := by decide +kernel
theorem dX4_equal_157 : decode cX4_equal 157 = .ok (.isub, 1) := by decide +kernel
theorem dX4_equal_158 : decode cX4_equal 158 = .ok (.aload_n 0, 1) := by decide +kernel
theorem dX4_equal_159 : decode cX4_equal 159 = .ok (.getfield 65, 3) := by decide +kernel
theorem dX4_equal_162 : decode cX4_equal 162 = .ok (.irem, 1) := by decide +kernel
theorem dX4_equal_163 : decode cX4_equal 163 = .ok (.istore 7, 2) := by decide +kernel
theorem dX4_equal_165 : decode cX4_equal 165 = .ok (.aload_n 0, 1) := by decide +kernel
theorem dX4_equal_166 : decode cX4_equal 166 = .ok (.getfield 16, 3) := by decide +kernel
theorem dX4_equal_169 : decode cX4_equal 169 = .ok (.iload 7, 2) := by decide +kernel
theorem dX4_equal_171 : decode cX4_equal 171 = .ok (.dup2, 1) := by decide +kernel
theorem dX4_equal_172 : decode cX4_equal 172 = .ok (.laload, 1) := by decide +kernel
theorem dX4_equal_173 : decode cX4_equal 173 = .ok (.iload 4, 2) := by decide +kernel
theorem dX4_equal_175 : decode cX4_equal 175 = .ok (.ifCond .eq 11, 3) := by decide +kernel
theorem dX4_equal_178 : decode cX4_equal 178 = .ok (.iload_n 2, 1) := by decide +kernel
theorem dX4_equal_179 : decode cX4_equal 179 = .ok (.i2l, 1) := by decide +kernel
theorem dX4_equal_180 : decode cX4_equal 180 = .ok (.lload 5, 2) := by decide +kernel
theorem dX4_equal_182 : decode cX4_equal 182 = .ok (.lmul, 1) := by decide +kernel
theorem dX4_equal_183 : decode cX4_equal 183 = .ok (.goto 4, 3) := by decide +kernel
theorem dX4_equal_186 : decode cX4_equal 186 = .ok (.lconst 0, 1) := by decide +kernel
theorem dX4_equal_187 : decode cX4_equal 187 = .ok (.ladd, 1) := by decide +kernel
theorem dX4_equal_188 : decode cX4_equal 188 = .ok (.lastore, 1) := by decide +kernel
theorem dX4_equal_189 : decode cX4_equal 189 = .ok (.iload_n 1, 1) := by decide +kernel
theorem dX4_equal_190 : decode cX4_equal 190 = .ok (.ifCond .eq 26, 3) := by decide +kernel
theorem dX4_equal_193 : decode cX4_equal 193 = .ok (.aload_n 0, 1) := by decide +kernel
theorem dX4_equal_194 : decode cX4_equal 194 = .ok (.getfield 29, 3) := by decide +kernel
theorem dX4_equal_197 : decode cX4_equal 197 = .ok (.iload_n 2, 1) := by decide +kernel
theorem dX4_equal_198 : decode cX4_equal 198 = .ok (.iconst 1, 1) := by decide +kernel
theorem dX4_equal_199 : decode cX4_equal 199 = .ok (.isub, 1) := by decide +kernel
theorem dX4_equal_200 : decode cX4_equal 200 = .ok (.laload, 1) := by decide +kernel
theorem dX4_equal_201 : decode cX4_equal 201 = .ok (.aload_n 0, 1) := by decide +kernel
theorem dX4_equal_202 : decode cX4_equal 202 = .ok (.getfield 16, 3) := by decide +kernel
theorem dX4_equal_205 : decode cX4_equal 205 = .ok (.iload 7, 2) := by decide +kernel
theorem dX4_equal_207 : decode cX4_equal 207 = .ok (.laload, 1) := by decide +kernel
theorem dX4_equal_208 : decode cX4_equal 208 = .ok (.lcmp, 1) := by decide +kernel
theorem dX4_equal_209 : decode cX4_equal 209 = .ok (.ifCond .ne 7, 3) := by decide +kernel
theorem dX4_equal_212 : decode cX4_equal 212 = .ok (.iconst 1, 1) := by decide +kernel
theorem dX4_equal_213 : decode cX4_equal 213 = .ok (.goto 4, 3) := by decide +kernel
theorem dX4_equal_216 : decode cX4_equal 216 = .ok (.iconst 0, 1) := by decide +kernel
theorem dX4_equal_217 : decode cX4_equal 217 = .ok (.istore_n 1, 1) := by decide +kernel
theorem dX4_equal_218 : decode cX4_equal 218 = .ok (.iinc 2 1, 3) := by decide +kernel
theorem dX4_equal_221 : decode cX4_equal 221 = .ok (.goto (-161), 3) := by decide +kernel
theorem dX4_equal_224 : decode cX4_equal 224 = .ok (.iconst 0, 1) := by decide +kernel
theorem dX4_equal_225 : decode cX4_equal 225 = .ok (.istore_n 2, 1) := by decide +kernel
theorem dX4_equal_226 : decode cX4_equal 226 = .ok (.iload_n 2, 1) := by decide +kernel
theorem dX4_equal_227 : decode cX4_equal 227 = .ok (.aload_n 0, 1) := by decide +kernel
theorem dX4_equal_228 : decode cX4_equal 228 = .ok (.getfield 65, 3) := by decide +kernel
theorem dX4_equal_231 : decode cX4_equal 231 = .ok (.if_icmp .ge 35, 3) := by decide +kernel
theorem dX4_equal_234 : decode cX4_equal 234 = .ok (.iload_n 1, 1) := by decide +kernel
theorem dX4_equal_235 : decode cX4_equal 235 = .ok (.ifCond .eq 23, 3) := by decide +kernel
theorem dX4_equal_238 : decode cX4_equal 238 = .ok (.aload_n 0, 1) := by decide +kernel
theorem dX4_equal_239 : decode cX4_equal 239 = .ok (.getfield 7, 3) := by decide +kernel
theorem dX4_equal_242 : decode cX4_equal 242 = .ok (.iload_n 2, 1) := by decide +kernel
theorem dX4_equal_243 : decode cX4_equal 243 = .ok (.laload, 1) := by decide +kernel
theorem dX4_equal_244 : decode cX4_equal 244 = .ok (.aload_n 0, 1) := by decide +kernel
theorem dX4_equal_245 : decode cX4_equal 245 = .ok (.getfield 16, 3) := by decide +kernel
theorem dX4_equal_248 : decode cX4_equal 248 = .ok (.iload_n 2, 1) := by decide +kernel
theorem dX4_equal_249 : decode cX4_equal 249 = .ok (.laload, 1) := by decide +kernel
theorem dX4_equal_250 : decode cX4_equal 250 = .ok (.lcmp, 1) := by decide +kernel
theorem dX4_equal_251 : decode cX4_equal 251 = .ok (.ifCond .ne 7, 3) := by decide +kernel
theorem dX4_equal_254 : decode cX4_equal 254 = .ok (.iconst 1, 1) := by decide +kernel
theorem dX4_equal_255 : decode cX4_equal 255 = .ok (.goto 4, 3) := by decide +kernel
theorem dX4_equal_258 : decode cX4_equal 258 = .ok (.iconst 0, 1) := by decide +kernel
theorem dX4_equal_259 : decode cX4_equal 259 = .ok (.istore_n 1, 1) := by decide +kernel
theorem dX4_equal_260 : decode cX4_equal 260 = .ok (.iinc 2 1, 3) := by decide +kernel
theorem dX4_equal_263 : decode cX4_equal 263 = .ok (.goto (-37), 3) := by decide +kernel
theorem dX4_equal_266 : decode cX4_equal 266 = .ok (.iload_n 1, 1) := by decide +kernel
theorem dX4_equal_267 : decode cX4_equal 267 = .ok (.ireturn, 1) := by decide +kernel
set_option maxRecDepth 20000 in
theorem ggX4_count_X4_isEnded : GoodIn wsX4_count wsX4_isEnded := goodIn_r _ [12, 3, 13, 14, 15, 16, 17, 18, 19, 20, 21, 22, 23, 24, 25, 26, 27, 28, 29, 30, 31, 32, 33, 34, 35, 36, 37] rfl (by decide +kernel)
set_option maxRecDepth 20000 in
theorem gX4_count_X4_isEnded : GoodIn wsX4_count (wsV RX4 71 RX4 yX4_isEnded wsX4_isEnded) := goodIn_app (goodIn_of _ (by decide +kernel)) ggX4_count_X4_isEnded
theorem dX4_count_0 : decode cX4_count 0 = .ok (.aload_n 0, 1) := by decide +kernel
theorem dX4_count_1 : decode cX4_count 1 = .ok (.iconst 0, 1) := by decide +kernel
theorem dX4_count_2 : decode cX4_count 2 = .ok (.putfield 54, 3) := by decide +kernel
theorem dX4_count_5 : decode cX4_count 5 = .ok (.iload_n 1, 1) := by decide +kernel
theorem dX4_count_6 : decode cX4_count 6 = .ok (.tableswitch 93 0 6 #[42, 47, 52, 57, 62, 75, 88], 42) := by decide +kernel
theorem dX4_count_48 : decode cX4_count 48 = .ok (.aload_n 0, 1) := by decide +kernel
theorem dX4_count_49 : decode cX4_count 49 = .ok (.getfield 65, 3) := by decide +kernel
theorem dX4_count_52 : decode cX4_count 52 = .ok (.ireturn, 1) := by decide +kernel
theorem dX4_count_53 : decode cX4_count 53 = .ok (.aload_n 0, 1) := by decide +kernel
theorem dX4_count_54 : decode cX4_count 54 = .ok (.getfield 68, 3) := by decide +kernel
theorem dX4_count_57 : decode cX4_count 57 = .ok (.ireturn, 1) := by decide +kernel
theorem dX4_count_58 : decode cX4_count 58 = .ok (.aload_n 0, 1) := by decide +kernel
theorem dX4_count_59 : decode cX4_count 59 = .ok (.getfield 62, 3) := by decide +kernel
theorem dX4_count_62 : decode cX4_count 62 = .ok (.ireturn, 1) := by decide +kernel
theorem dX4_count_63 : decode cX4_count 63 = .ok (.aload_n 0, 1) := by decide +kernel
theorem dX4_count_64 : decode cX4_count 64 = .ok (.getfield 77, 3) := by decide +kernel
theorem dX4_count_67 : decode cX4_count 67 = .ok (.ireturn, 1) := by decide +kernel
theorem dX4_count_68 : decode cX4_count 68 = .ok (.aload_n 0, 1) := by decide +kernel
theorem dX4_count_69 : decode cX4_count 69 = .ok (.getfield 58, 3) := by decide +kernel
theorem dX4_count_72 : decode cX4_count 72 = .ok (.ifCond .eq 7, 3) := by decide +kernel
theorem dX4_count_75 : decode cX4_count 75 = .ok (.iconst 1, 1) := by decide +kernel
theorem dX4_count_76 : decode cX4_count 76 = .ok (.goto 4, 3) := by decide +kernel
theorem dX4_count_79 : decode cX4_count 79 = .ok (.iconst 0, 1) := by decide +kernel
theorem dX4_count_80 : decode cX4_count 80 = .ok (.ireturn, 1) := by decide +kernel
theorem dX4_count_81 : decode cX4_count 81 = .ok (.aload_n 0, 1) := by decide +kernel
theorem dX4_count_82 : decode cX4_count 82 = .ok (.invokevirtual 71, 3) := by decide +kernel
theorem dX4_count_85 : decode cX4_count 85 = .ok (.ifCond .eq 7, 3) := by decide +kernel
theorem dX4_count_88 : decode cX4_count 88 = .ok (.iconst 1, 1) := by decide +kernel
theorem dX4_count_89 : decode cX4_count 89 = .ok (.goto 4, 3) := by decide +kernel
theorem dX4_count_92 : decode cX4_count 92 = .ok (.iconst 0, 1) := by decide +kernel
theorem dX4_count_93 : decode cX4_count 93 = .ok (.ireturn, 1) := by decide +kernel
theorem dX4_count_94 : decode cX4_count 94 = .ok (.aload_n 0, 1) := by decide +kernel
theorem dX4_count_95 : decode cX4_count 95 = .ok (.getfield 83, 3) := by decide +kernel
theorem dX4_count_98 : decode cX4_count 98 = .ok (.ireturn, 1) := by decide +kernel
theorem dX4_count_99 : decode cX4_count 99 = .ok (.iconst (-1), 1) := by decide +kernel
theorem dX4_count_100 : decode cX4_count 100 = .ok (.ireturn, 1) := by decide +kernel
theorem dJx00060_init_a7421_0 : decode cJx00060_init_a7421 0 = .ok (.aload_n 0, 1) := by decide +kernel
theorem dJx00060_init_a7421_1 : decode cJx00060_init_a7421 1 = .ok (.aload_n 1, 1) := by decide +kernel
theorem dJx00060_init_a7421_2 : decode cJx00060_init_a7421 2 = .ok (.invokespecial 7, 3) := by decide +kernel
theorem dJx00060_init_a7421_5 : decode cJx00060_init_a7421 5 = .ok (.return_, 1) := by decide +kernel
set_option maxRecDepth 20000 in
theorem ggL_get_X3_get : GoodIn wsL_get wsX3_get := goodIn_ca (goodIn_r _ [6, 7, 8, 9, 10, 11, 12, 13, 14, 15, 16, 17, 18, 19, 20, 21, 22, 23, 24, 25, 26, 27, 28, 29] rfl (by decide +kernel)) (goodIn_sub (fun _ h => List.mem_cons_of_mem _ (List.mem_append_right _ h)) (by decide +kernel))
set_option maxRecDepth 20000 in
theorem gL_get_X3_get : GoodIn wsL_get (wsV RL 7 RX3 yX3_get wsX3_get) := goodIn_app (goodIn_of _ (by decide +kernel)) ggL_get_X3_get
